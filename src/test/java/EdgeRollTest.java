import java.util.NoSuchElementException;

/** The bounds that the document names for promises 39 to 44, and in the section Roll, grants, suits. */
public final class EdgeRollTest {
    private static final int[] NO_LANDS = {Integer.MIN_VALUE, -1, 4, Integer.MAX_VALUE};
    private static final Twin.Maker WRONG_ROW = () -> Check.typed(Lands.FAMILY.make(), 3, 22);
    private static final Twin.Maker NO_ROW = () -> Check.typed(Lands.FAMILY.make());
    /** On a field of 3, words behind it that are so many points away from the field alone. */
    private static final int[][] AWAY_23 = {{62, 56, 1, 61, 51, 1}, {61, 55, 1, 65, 54, 2}};
    private static final int[][] AWAY_24 = {{68, 54, 1}, {63, 55, 1}};

    public static void main(String[] args) {
        distances();
        nearOrNot();
        conflictsOf();
        conflictBounds();
        nearestOnes();
        wordsInBlazons();
        visitBounds();
        sixtyYears();
        threeGenerations();
        grantedAndNear();
        risingNumbers();
        disclaimedOnes();
        fullLand();
        Check.end();
    }

    private static int[] with(int field, int... words) {
        int[] row = new int[words.length + 1];
        row[0] = field;
        System.arraycopy(words, 0, row, 1, words.length);
        return row;
    }

    private static Blazonry men(int count) {
        Blazonry land = new Blazonry();
        for (int p = 0; p < count; p++) {
            Lands.man(land, -1);
        }
        return land;
    }

    /** As there are points of unlike tinctures, drawn without differences, with augmentations. */
    private static void distances() {
        Blazonry land = men(2);
        Lands.grant(land, 0, 0, 3);
        Lands.grant(land, 0, 1, 4);
        Lands.grant(land, 0, 2, 11, 3, 16, 4);
        Lands.assume(land, 1, 3, 3, 61, 53, 1);
        for (int a = 0; a < 4; a++) {
            int arms = a;
            Check.due("to itself", 0, () -> land.distance(arms, arms));
        }
        Check.due("all points", 256, () -> land.distance(0, 1));
        Check.due("the other way", 256, () -> land.distance(1, 0));
        Check.due("half of them", 128, () -> land.distance(2, 0));
        Check.due("three points", 3, () -> land.distance(0, 3));
        land.augment(0, 3, 56, 4);
        Check.due("augmented", 247, () -> land.distance(0, 1));
        land.augment(1, 3, 56, 4);
        Check.due("both", 231, () -> land.distance(0, 1));
        land.visit(3);
        Check.due("void ones too", 10, () -> land.distance(0, 3));
    }

    /** They are near if that is less than 24. */
    private static void nearOrNot() {
        for (int i = 0; i < 2; i++) {
            int[] away23 = with(3, AWAY_23[i]);
            int[] away24 = with(3, AWAY_24[i]);
            Twin.Maker near = () -> {
                Blazonry land = men(2);
                Lands.grant(land, 0, 0, 3);
                return Check.typed(land, away23);
            };
            Twin.Maker far = () -> {
                Blazonry land = men(2);
                Lands.grant(land, 0, 0, 3);
                return Check.typed(land, away24);
            };
            Check.due("23 points", 1, () -> near.make().conflicts(1, 0));
            Twin.refused("23 points", UnsupportedOperationException.class, near, land -> land.grant(1, 0));
            Check.due("24 points", 0, () -> far.make().conflicts(1, 0));
            Check.due("24 points", 1, () -> far.make().grant(1, 0));
            Blazonry suitors = near.make();
            suitors.assume(1, 0);
            Check.due("23", 23, () -> suitors.distance(0, 1));
            Check.due("sue", 0, () -> suitors.sue(0, 1));
            Blazonry strangers = far.make();
            strangers.assume(1, 0);
            Check.due("24", 24, () -> strangers.distance(0, 1));
            Check.due("sue", "throws.UnsupportedOperationException", () -> strangers.sue(0, 1));
        }
    }

    /** Arms of this land that are near, if somebody who lives, other than the one who gets it, bears them. */
    private static void conflictsOf() {
        Blazonry land = men(4);
        int son = Lands.man(land, 0);
        int daughter = Lands.woman(land, 0);
        Lands.grant(land, 0, 0, 3);
        Lands.assume(land, 1, 0, 3);
        Lands.assume(land, 2, 1, 3);
        Check.typed(land, 3);
        conflicts(land, 2, 0, 3);
        conflicts(land, 2, 0, 0);
        conflicts(land, 1, 0, 1);
        conflicts(land, 2, 0, son);
        conflicts(land, 0, 1, 2);
        conflicts(land, 1, 1, 0);
        land.death(0);
        conflicts(land, 2, 0, son);
        land.death(daughter);
        conflicts(land, 1, 0, son);
        conflicts(land, 2, 0, 3);
        land.death(son);
        conflicts(land, 1, 0, 3);
        land.death(3);
        conflicts(land, 1, 0, 3);
        Check.due("the dead get none", "throws.UnsupportedOperationException", () -> land.grant(3, 2));
        land.visit(0);
        conflicts(land, 0, 0, 2);
        Check.due("the row is as it was", 1, land::erase);
    }

    private static void conflicts(Blazonry land, int want, int of, int person) {
        Check.due("conflicts in " + of + " of " + person, want, () -> land.conflicts(person, of));
    }

    /** IndexOutOfBoundsException, IllegalArgumentException, UnsupportedOperationException, in this order. */
    private static void conflictBounds() {
        for (int of : NO_LANDS) {
            Twin.refused("no land", IllegalArgumentException.class, Lands.FAMILY, land -> land.conflicts(0, of));
            Twin.refused("no land first", IllegalArgumentException.class, WRONG_ROW, land -> land.conflicts(13, of));
            Twin.refused("no person first", IndexOutOfBoundsException.class, WRONG_ROW, land -> land.conflicts(14, of));
            Twin.refused("no person first", IndexOutOfBoundsException.class, Lands.FAMILY,
                    land -> land.conflicts(-1, of));
        }
        for (int of = 0; of < 4; of++) {
            int in = of;
            Twin.refused("a wrong row", UnsupportedOperationException.class, WRONG_ROW, land -> land.conflicts(0, in));
            Twin.refused("an empty row", UnsupportedOperationException.class, NO_ROW, land -> land.conflicts(0, in));
            Check.due("none", 0, () -> Lands.FAMILY.make().conflicts(0, in));
        }
    }

    /** Of several the lowest number, void ones left out; however far they are. */
    private static void nearestOnes() {
        Blazonry land = men(3);
        Lands.grant(land, 0, 3, 4);
        Check.typed(land, 3);
        Check.due("256 points away", 0, land::nearest);
        Lands.assume(land, 1, 0, 5);
        Check.typed(land, 3);
        Check.due("of as far ones the lowest", 0, land::nearest);
        Lands.assume(land, 2, 2, 3, 61, 54, 1);
        Check.typed(land, 3);
        Check.due("3 points away", 2, land::nearest);
        Check.typed(land, 5);
        Check.due("as it is", 1, land::nearest);
        land.visit(0);
        Check.due("void ones are left out", 0, land::nearest);
        land.visit(2);
        Check.typed(land, 3, 61, 54, 1);
        Check.due("the last one left", 0, land::nearest);
        Twin.Maker none = () -> {
            Blazonry made = men(1);
            Lands.assume(made, 0, 0, 3);
            made.visit(0);
            return Check.typed(made, 3);
        };
        Twin.refused("void ones alone", NoSuchElementException.class, none, Blazonry::nearest);
        Twin.refused("none at all", NoSuchElementException.class, () -> Check.row(3), Blazonry::nearest);
        Twin.refused("a wrong row", UnsupportedOperationException.class, WRONG_ROW, Blazonry::nearest);
        Twin.refused("a wrong row first", UnsupportedOperationException.class, () -> Check.row(3, 22),
                Blazonry::nearest);
        Twin.refused("an empty row first", UnsupportedOperationException.class, Lands.EMPTY, Blazonry::nearest);
        Check.due("the last of 24", 21, () -> Check.typed(Lands.FULL.make(), 3, 64, 54, 1).nearest());
        Check.due("the first of 24", 0, () -> Check.typed(Lands.FULL.make(), 3).nearest());
    }

    /** How many arms have a word in their blazon, void ones too; any number is a word. */
    private static void wordsInBlazons() {
        Blazonry land = men(1);
        Lands.assume(land, 0, 0, Lands.TWENTY_FOUR);
        Lands.grant(land, 0, 1, 1);
        boolean[] told = new boolean[100];
        for (int word : Lands.TWENTY_FOUR) {
            told[word] = true;
        }
        for (int word = 0; word < 100; word++) {
            int of = word;
            Check.due("word " + word, (told[word] ? 1 : 0) + (word == 1 ? 1 : 0), () -> land.withWord(of));
        }
        for (int word : new int[] {Integer.MIN_VALUE, -1, 100, Integer.MAX_VALUE}) {
            Check.due("no word", 0, () -> land.withWord(word));
        }
        land.visit(0);
        Check.due("void ones too", 1, () -> land.withWord(36));
        land.type(36);
        Check.due("not the row", 1, () -> land.withWord(36));
        Check.due("24 arms", 24, () -> Lands.FULL.make().withWord(3));
        Check.due("12 of them", 12, () -> Lands.FULL.make().withWord(54));
    }

    /** land: the land, 0 to 3. */
    private static void visitBounds() {
        for (int of : NO_LANDS) {
            Twin.refused("no land", IllegalArgumentException.class, Lands.FAMILY, land -> land.visit(of));
            Twin.refused("no land", IllegalArgumentException.class, Lands.EMPTY, land -> land.visit(of));
        }
        for (int l = 0; l < 4; l++) {
            Blazonry land = men(4);
            for (int p = 0; p < 4; p++) {
                Lands.assume(land, p, p, 3);
            }
            int of = l;
            Check.due("nothing is granted", 0, () -> land.visit(of));
            for (int a = 0; a < 4; a++) {
                int arms = a;
                Check.due("this land alone", arms == of ? 'v' : 'u', () -> land.cameBy(arms));
            }
            Check.due("one", 1, land::disclaimed);
        }
    }

    /** Or 60 years have gone by since. */
    private static void sixtyYears() {
        for (int start : new int[] {0, 7}) {
            for (int years = 59; years <= 61; years++) {
                Blazonry land = men(1);
                if (start > 0) {
                    land.pass(start);
                }
                Lands.assume(land, 0, 2, 3);
                land.pass(years);
                boolean is = years >= 60;
                Check.due(years + " years", is ? 1 : 0, () -> land.visit(2));
                Check.due("how it came", is ? 'g' : 'v', () -> land.cameBy(0));
                Check.due("disclaimed", is ? 0 : 1, land::disclaimed);
                Check.due("a second visitation", 0, () -> land.visit(2));
                Check.due("does nothing", is ? 'g' : 'v', () -> land.cameBy(0));
                Check.due("nor disclaims twice", is ? 0 : 1, land::disclaimed);
            }
        }
        Blazonry dead = men(1);
        Lands.assume(dead, 0, 0, 3);
        dead.death(0);
        dead.pass(60);
        Check.due("borne by nobody living", 1, () -> dead.visit(0));
        Blazonry granted = men(1);
        Lands.grant(granted, 0, 0, 3);
        Check.due("granted ones are left", 0, () -> granted.visit(0));
        Check.due("as they are", 'g', () -> granted.cameBy(0));
    }

    /** If the first bearer, a son and a son of this one bear or bore them. */
    private static void threeGenerations() {
        for (int way = 0; way < 9; way++) {
            Blazonry land = new Blazonry();
            int first = Lands.man(land, -1);
            int son = way == 1 ? Lands.woman(land, first) : Lands.man(land, first);
            int other = Lands.man(land, first);
            if (way == 1) {
                land.birth(-1, son, true);
            } else {
                land.birth(way == 2 ? other : son, -1, way != 3);
            }
            int grandson = 3;
            Lands.assume(land, first, 0, 3);
            if (way == 4) {
                land.death(first);
                land.death(son);
                land.death(grandson);
            } else if (way >= 5 && way <= 7) {
                // one of the three bears other arms
                Lands.grant(land, way == 5 ? first : way == 6 ? son : grandson, 1, 5);
            } else if (way == 8) {
                land.death(grandson);
                Lands.grant(land, son, 1, 5);
                Lands.man(land, other);
            }
            int want = way == 0 || way == 2 || way == 4 || way == 8 ? 1 : 0;
            Check.due("way " + way, want, () -> land.visit(0));
        }
        Blazonry two = new Blazonry();
        Lands.man(two, -1);
        Lands.man(two, 0);
        Lands.man(two, 0);
        Lands.assume(two, 0, 0, 3);
        Check.due("two generations", 0, () -> two.visit(0));
        Blazonry early = new Blazonry();
        for (int p = 0; p < 3; p++) {
            Lands.man(early, p - 1);
        }
        early.death(2);
        Lands.assume(early, 0, 0, 3);
        Check.due("who had died before", 0, () -> early.visit(0));
    }

    /** And no other granted arms there, those granted ahead in this visitation too, not void, are near to them. */
    private static void grantedAndNear() {
        for (int i = 0; i < 2; i++) {
            int[][] rows = {with(3, AWAY_23[i]), with(3, AWAY_24[i])};
            for (int[] row : rows) {
                boolean isFar = row == rows[1];
                Blazonry land = men(2);
                Lands.grant(land, 0, 0, 3);
                Lands.assume(land, 1, 0, row);
                land.pass(60);
                Check.due("granted before", isFar ? 1 : 0, () -> land.visit(0));
                Blazonry ahead = men(2);
                Lands.assume(ahead, 0, 0, 3);
                Lands.assume(ahead, 1, 0, row);
                ahead.pass(60);
                Check.due("granted ahead", isFar ? 2 : 1, () -> ahead.visit(0));
                Check.due("the first", 'g', () -> ahead.cameBy(0));
                Check.due("the second", isFar ? 'g' : 'v', () -> ahead.cameBy(1));
                Blazonry behind = men(2);
                Lands.assume(behind, 1, 0, row);
                Lands.grant(behind, 0, 1, 3);
                behind.pass(60);
                Check.due("in another land", 1, () -> behind.visit(0));
            }
        }
        // void ones, and those that only are assumed, do not hinder
        Blazonry land = men(3);
        Lands.grant(land, 0, 0, 3);
        land.pass(1);
        Lands.assume(land, 1, 0, 3);
        land.pass(60);
        Lands.assume(land, 2, 0, 3);
        Check.due("the younger ones win", 0, () -> land.sue(0, 1));
        Check.due("void", 'v', () -> land.cameBy(0));
        Check.due("one", 1, () -> land.visit(0));
        Check.due("the second", 'g', () -> land.cameBy(1));
        Check.due("the third", 'v', () -> land.cameBy(2));
    }

    /** By rising numbers: those which are void ahead are borne no more as it comes to the next ones. */
    private static void risingNumbers() {
        Blazonry land = new Blazonry();
        for (int p = 0; p < 3; p++) {
            Lands.man(land, p - 1);
        }
        Lands.assume(land, 2, 0, 5);
        Lands.assume(land, 0, 0, 3);
        Check.due("the first ones are void, the second ones borne", 1, () -> land.visit(0));
        Check.due("void", 'v', () -> land.cameBy(0));
        Check.due("granted", 'g', () -> land.cameBy(1));
        Blazonry other = new Blazonry();
        for (int p = 0; p < 3; p++) {
            Lands.man(other, p - 1);
        }
        Lands.assume(other, 0, 0, 3);
        Lands.assume(other, 2, 1, 5);
        Check.due("not the other way round", 0, () -> other.visit(0));
    }

    /** How many arms visitations found void: of all lands, not those void by judgments. */
    private static void disclaimedOnes() {
        Blazonry land = men(6);
        Check.due("none", 0, land::disclaimed);
        for (int p = 0; p < 6; p++) {
            Lands.assume(land, p, p / 2, 3);
        }
        land.sue(0, 1);
        Check.due("a judgment", 0, land::disclaimed);
        land.visit(0);
        Check.due("one", 1, land::disclaimed);
        land.visit(1);
        Check.due("three", 3, land::disclaimed);
        land.visit(2);
        Check.due("five", 5, land::disclaimed);
        land.visit(3);
        Check.due("five still", 5, land::disclaimed);
    }

    /** 24 arms that are all near to each other. */
    private static void fullLand() {
        Blazonry land = men(26);
        for (int p = 0; p < 24; p++) {
            Lands.assume(land, p, 0, 3);
        }
        Check.typed(land, 3);
        conflicts(land, 24, 0, 24);
        conflicts(land, 23, 0, 23);
        land.pass(60);
        Check.due("the first is granted", 1, () -> land.visit(0));
        Check.due("the others are void", 23, land::disclaimed);
        conflicts(land, 1, 0, 24);
        Blazonry none = men(24);
        for (int p = 0; p < 24; p++) {
            Lands.assume(none, p, 0, 3);
        }
        Check.due("none is granted", 0, () -> none.visit(0));
        Check.due("all are void", 24, none::disclaimed);
    }
}
