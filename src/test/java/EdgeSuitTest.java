import java.util.NoSuchElementException;

/** The bounds that the document names for promises 45 to 49, and for suits, precedents and appeals. */
public final class EdgeSuitTest {
    /** Points away from 3 28 1, and the words behind it that make them. */
    private static final int[][] AWAY = {
        {0}, {3, 61, 54, 2}, {5, 61, 51, 2}, {7, 36, 61, 55, 5}, {8, 61, 55, 2}, {9, 61, 56, 2}, {10, 62, 51, 2},
        {11, 61, 54, 2, 61, 55, 2}, {12, 61, 54, 2, 61, 56, 2}, {13, 61, 51, 2, 61, 55, 2}, {14, 61, 51, 2, 61, 56, 2},
        {15, 36, 61, 55, 5, 61, 55, 2}, {16, 62, 55, 2}, {17, 61, 55, 2, 61, 56, 2}, {18, 62, 56, 2},
        {22, 61, 51, 2, 61, 55, 2, 61, 56, 2}, {23, 36, 61, 55, 5, 62, 55, 2}, {24, 63, 55, 2}};
    private static final int NEAR_ONES = AWAY.length - 1;
    private static final Twin.Maker WITH_APPEAL = () -> {
        Blazonry land = pair(12);
        land.sue(0, 1);
        return land;
    };

    public static void main(String[] args) {
        elderOnes();
        whatIsVoid();
        sixtyYears();
        classes();
        precedentsByClass();
        precedentsByLand();
        latestThatStands();
        classBounds();
        refusedSuits();
        distanceOfAppeals();
        yearsOfAppeals();
        refusedAppeals();
        asTheyWereBefore();
        distanceOfThen();
        twentyJudgments();
        Check.end();
    }

    private static int[] away(int points) {
        for (int[] each : AWAY) {
            if (each[0] == points) {
                int[] row = new int[each.length + 2];
                row[0] = 3;
                row[1] = 28;
                row[2] = 1;
                System.arraycopy(each, 1, row, 3, each.length - 1);
                return row;
            }
        }
        throw new AssertionError(points);
    }

    /** 0 and 1 have arms in the land 0, so many points apart; 0 has the elder ones. */
    private static Blazonry pair(int points) {
        Blazonry land = new Blazonry();
        Lands.man(land, -1);
        Lands.man(land, -1);
        Lands.assume(land, 0, 0, 3, 28, 1);
        Lands.assume(land, 1, 0, away(points));
        return land;
    }

    /** Those of the lower year are the elder ones, of one year those of the lower number. */
    private static void elderOnes() {
        for (int suing = 0; suing < 2; suing++) {
            Blazonry land = pair(0);
            int who = suing;
            Check.due("sue", 0, () -> land.sue(who, 1 - who));
            Check.due("the elder ones win", 'e', () -> land.judged(0));
            Check.due("of the lower number", 'u', () -> land.cameBy(0));
            Check.due("void", 'v', () -> land.cameBy(1));
        }
        Blazonry land = pair(0);
        Lands.man(land, -1);
        land.pass(1);
        Lands.assume(land, 2, 0, 3, 28, 1);
        land.pass(100);
        Lands.grant(land, 0, 1, 5);
        Check.due("by years of 0 and 1", 0, () -> land.sue(2, 1));
        Check.due("100 years are more than 60", 'y', () -> land.judged(0));
        Check.due("the lower year", 'v', () -> land.cameBy(1));
        Check.due("the higher year", 'u', () -> land.cameBy(2));
    }

    /** Those that lose are void. */
    private static void whatIsVoid() {
        Blazonry land = pair(3);
        int son = Lands.man(land, 1);
        land.sue(1, 0);
        Check.due("borne by nobody", "throws.NoSuchElementException", () -> land.borne(1));
        Check.due("not by the son", "throws.NoSuchElementException", () -> land.borne(son));
        Check.due("borne", 0, () -> land.borne(0));
        Check.due("nobody", 0, () -> land.bearers(1));
        Check.due("extinct", true, () -> land.isExtinct(1));
        Check.due("there still", 2, land::arms);
        Check.due("not disclaimed", 0, land::disclaimed);
        Check.due("stands", true, () -> land.stands(0));
    }

    /** Without a precedent 'y', if 60 years have gone by since the year of the younger ones, else 'e'. */
    private static void sixtyYears() {
        for (int years = 59; years <= 61; years++) {
            Blazonry land = new Blazonry();
            Lands.man(land, -1);
            Lands.man(land, -1);
            Lands.assume(land, 0, 0, 3);
            land.pass(40);
            Lands.assume(land, 1, 0, 3);
            land.pass(years);
            char want = years < 60 ? 'e' : 'y';
            Check.due("sue", 0, () -> land.sue(1, 0));
            Check.due(years + " years", want, () -> land.judged(0));
            Check.due("the elder ones", want == 'e' ? 'u' : 'v', () -> land.cameBy(0));
            Check.due("the younger ones", want == 'e' ? 'v' : 'u', () -> land.cameBy(1));
        }
    }

    /** The class is the distance divided by 8: 0 to 7, 8 to 15, 16 to 23. */
    private static void classes() {
        for (int i = 0; i < NEAR_ONES; i++) {
            int points = AWAY[i][0];
            Blazonry land = pair(points);
            Check.due("distance", points, () -> land.distance(0, 1));
            Check.due("sue", 0, () -> land.sue(0, 1));
            for (int step = 0; step < 3; step++) {
                int of = step;
                Check.due(points + " points in the class " + step,
                        of == points / 8 ? "0" : "throws.NoSuchElementException", () -> land.precedent(0, of));
            }
        }
        Blazonry far = pair(24);
        Check.due("distance", 24, () -> far.distance(0, 1));
        Twin.refused("24 points", UnsupportedOperationException.class, () -> pair(24), land -> land.sue(0, 1));
        Check.due("no judgment", "throws.IndexOutOfBoundsException", () -> far.judged(0));
    }

    /** It is judged as the precedent of its class, whatever the two distances in it are. */
    private static void precedentsByClass() {
        for (int i = 0; i < NEAR_ONES; i++) {
            for (int j = 0; j < NEAR_ONES; j++) {
                Blazonry land = pair(AWAY[i][0]);
                Lands.man(land, -1);
                Lands.assume(land, 2, 0, away(AWAY[j][0]));
                land.sue(0, 1);
                land.pass(60);
                land.sue(0, 2);
                Check.due(AWAY[j][0] + " points behind " + AWAY[i][0], AWAY[i][0] / 8 == AWAY[j][0] / 8 ? 'e' : 'y',
                        () -> land.judged(1));
            }
        }
    }

    /** The precedent of a land and class: those of other lands and classes do not count. */
    private static void precedentsByLand() {
        for (int l = 0; l < 4; l++) {
            Blazonry land = new Blazonry();
            for (int p = 0; p < 6; p++) {
                Lands.man(land, -1);
            }
            int of = l;
            Lands.assume(land, 0, of, 3, 28, 1);
            Lands.assume(land, 1, of, away(7));
            Lands.assume(land, 2, of, away(8));
            Lands.assume(land, 3, of, away(3));
            Lands.assume(land, 4, (of + 1) % 4, 3);
            Lands.assume(land, 5, (of + 1) % 4, 3);
            land.sue(0, 1);
            land.pass(60);
            Check.due("in another land", 1, () -> land.sue(4, 5));
            Check.due("60 years", 'y', () -> land.judged(1));
            Check.due("of the same class", 2, () -> land.sue(0, 3));
            Check.due("as the precedent", 'e', () -> land.judged(2));
            Check.due("of another class", 3, () -> land.sue(0, 2));
            Check.due("60 years", 'y', () -> land.judged(3));
            Check.due("class 0", 2, () -> land.precedent(of, 0));
            Check.due("class 1", 3, () -> land.precedent(of, 1));
            Check.due("in the other land", 1, () -> land.precedent((of + 1) % 4, 0));
            Check.due("in none", "throws.NoSuchElementException", () -> land.precedent((of + 2) % 4, 0));
        }
    }

    /** The latest judgment that stands. */
    private static void latestThatStands() {
        Blazonry land = new Blazonry();
        for (int p = 0; p < 5; p++) {
            Lands.man(land, -1);
        }
        Lands.assume(land, 0, 0, 3, 28, 1);
        Lands.assume(land, 1, 0, away(12));
        Lands.assume(land, 2, 0, away(12));
        Lands.assume(land, 3, 0, away(0));
        Lands.assume(land, 4, 0, away(13));
        land.sue(0, 1);
        land.sue(0, 2);
        Check.due("the latest", 1, () -> land.precedent(0, 1));
        Check.due("an appeal from the first", 2, () -> land.appeal(0));
        Check.due("the latest", 2, () -> land.precedent(0, 1));
        Check.due("the second stands", true, () -> land.stands(1));
        Check.due("by the latest", 3, () -> land.sue(3, 4));
        Check.due("the younger ones", 'y', () -> land.judged(3));
        Check.due("an appeal from it", 4, () -> land.appeal(3));
        Check.due("its other letter", 'e', () -> land.judged(4));
        Check.due("the latest", 4, () -> land.precedent(0, 1));
    }

    /** land, 0 to 3, and the class, 0 to 2. */
    private static void classBounds() {
        Check.due("the least", 0, () -> {
            Blazonry land = pair(0);
            land.sue(0, 1);
            return land.precedent(0, 0);
        });
        for (int of : new int[] {Integer.MIN_VALUE, -1, 4, Integer.MAX_VALUE}) {
            Twin.refused("no land", IllegalArgumentException.class, WITH_APPEAL, land -> land.precedent(of, 1));
            Twin.refused("no land", IllegalArgumentException.class, Lands.EMPTY, land -> land.precedent(of, 0));
        }
        for (int step : new int[] {Integer.MIN_VALUE, -1, 3, Integer.MAX_VALUE}) {
            Twin.refused("no class", IllegalArgumentException.class, WITH_APPEAL, land -> land.precedent(0, step));
            Twin.refused("no class", IllegalArgumentException.class, Lands.EMPTY, land -> land.precedent(3, step));
        }
        for (int[] none : new int[][] {{0, 0}, {0, 2}, {1, 1}, {3, 1}, {3, 2}}) {
            Twin.refused("none", NoSuchElementException.class, WITH_APPEAL, land -> land.precedent(none[0], none[1]));
        }
    }

    /** The same, the dead, without arms, with the same arms, of two lands, not near. */
    private static void refusedSuits() {
        int[][] wrong = {{0, 0}, {10, 10}, {11, 0}, {0, 11}, {7, 0}, {0, 7}, {0, 10}, {10, 0}, {0, 12}, {12, 0}, {0, 2},
            {2, 4}, {0, 8}, {9, 5}};
        for (int[] pair : wrong) {
            Twin.refused("sue " + pair[0] + " " + pair[1], UnsupportedOperationException.class, Lands.FAMILY,
                    land -> land.sue(pair[0], pair[1]));
        }
        Check.due("near", 1, () -> Lands.FAMILY.make().sue(2, 6));
        Check.due("near", 1, () -> Lands.FAMILY.make().sue(5, 4));
        for (int number : new int[] {Integer.MIN_VALUE, -1, 14, 40, Integer.MAX_VALUE}) {
            Twin.refused("nobody", IndexOutOfBoundsException.class, Lands.FAMILY, land -> land.sue(number, number));
            Twin.refused("the dead", IndexOutOfBoundsException.class, Lands.FAMILY, land -> land.sue(7, number));
            Twin.refused("no arms", IndexOutOfBoundsException.class, Lands.FAMILY, land -> land.sue(number, 10));
        }
    }

    /** The distance is less than 12: 11 and 12. */
    private static void distanceOfAppeals() {
        for (int i = 0; i < NEAR_ONES; i++) {
            int points = AWAY[i][0];
            Twin.Maker maker = () -> {
                Blazonry land = pair(points);
                land.sue(0, 1);
                return land;
            };
            if (points < 12) {
                Twin.refused(points + " points", UnsupportedOperationException.class, maker, land -> land.appeal(0));
            } else {
                Check.due(points + " points", 1, () -> maker.make().appeal(0));
            }
        }
    }

    /** Within less than 2 years. */
    private static void yearsOfAppeals() {
        for (int start : new int[] {0, 5}) {
            for (int years = 0; years <= 3; years++) {
                int gone = years;
                Twin.Maker maker = () -> {
                    Blazonry land = pair(12);
                    if (start > 0) {
                        land.pass(start);
                    }
                    land.sue(0, 1);
                    if (gone > 0) {
                        land.pass(gone);
                    }
                    return land;
                };
                if (years < 2) {
                    Check.due(years + " years", 1, () -> maker.make().appeal(0));
                } else {
                    Twin.refused(years + " years", UnsupportedOperationException.class, maker, land -> land.appeal(0));
                }
            }
        }
    }

    /** It stands no more, or was made by an appeal. */
    private static void refusedAppeals() {
        Twin.Maker appealed = () -> {
            Blazonry land = WITH_APPEAL.make();
            land.appeal(0);
            return land;
        };
        Twin.refused("stands no more", UnsupportedOperationException.class, appealed, land -> land.appeal(0));
        Twin.refused("by an appeal", UnsupportedOperationException.class, appealed, land -> land.appeal(1));
        Twin.refused("no judgment", IndexOutOfBoundsException.class, appealed, land -> land.appeal(2));
        Twin.refused("no judgment", IndexOutOfBoundsException.class, appealed, land -> land.appeal(-1));
        Blazonry land = appealed.make();
        Check.due("the old letter", 'e', () -> land.judged(0));
        Check.due("the other one", 'y', () -> land.judged(1));
        Check.due("stands no more", false, () -> land.stands(0));
        Check.due("stands instead", true, () -> land.stands(1));
    }

    /** Those that had lost are as they were before, the other ones are void. */
    private static void asTheyWereBefore() {
        for (char came : new char[] {'g', 'u'}) {
            for (int years : new int[] {0, 60}) {
                Blazonry land = new Blazonry();
                for (int p = 0; p < 3; p++) {
                    Lands.man(land, -1);
                }
                Lands.grant(land, 0, 3, 5);
                Check.typed(land, 3, 28, 1);
                int elder = came == 'g' ? land.grant(1, 0) : land.assume(1, 0);
                int younger = Lands.assume(land, 2, 0, away(12));
                if (years > 0) {
                    land.pass(years);
                }
                land.sue(2, 1);
                int loser = years > 0 ? elder : younger;
                int winner = elder + younger - loser;
                char before = loser == elder ? came : 'u';
                Check.due("lost", 'v', () -> land.cameBy(loser));
                Check.due("appeal", 1, () -> land.appeal(0));
                Check.due("as before", before, () -> land.cameBy(loser));
                Check.due("void now", 'v', () -> land.cameBy(winner));
                Check.due("borne", loser, () -> land.borne(loser));
                Check.due("not borne", "throws.NoSuchElementException", () -> land.borne(winner));
                Check.due("those of another land", 'g', () -> land.cameBy(0));
            }
        }
    }

    /** With the distance as it was then. */
    private static void distanceOfThen() {
        Blazonry land = WITH_APPEAL.make();
        land.augment(0, 5, 56, 6);
        Check.due("far apart now", true, () -> land.distance(0, 1) > 24);
        Check.due("appeal", 1, () -> land.appeal(0));
        Check.due("of the class of then", 1, () -> land.precedent(0, 1));
        Check.due("and of no other", "throws.NoSuchElementException", () -> land.precedent(0, 2));
        Blazonry near = pair(11);
        near.sue(0, 1);
        near.augment(0, 5, 56, 6);
        Check.due("too near then", "throws.UnsupportedOperationException", () -> near.appeal(0));
    }

    /** IllegalStateException if there are 20 judgments, behind all the others. */
    private static void twentyJudgments() {
        Blazonry land = Lands.FULL.make();
        for (int j = 0; j < 20; j++) {
            int judgment = j;
            Check.due("judged", 'e', () -> land.judged(judgment));
            Check.due("stands", true, () -> land.stands(judgment));
        }
        Check.due("the latest far ones", 18, () -> land.precedent(0, 1));
        Check.due("the latest near ones", 19, () -> land.precedent(0, 0));
        Twin.refused("a 21st", IllegalStateException.class, Lands.FULL, of -> of.sue(0, 21));
        Twin.refused("a 21st", IllegalStateException.class, Lands.FULL, of -> of.sue(22, 23));
        Twin.refused("an appeal", IllegalStateException.class, Lands.FULL, of -> of.appeal(0));
        Twin.refused("an appeal", IllegalStateException.class, Lands.FULL, of -> of.appeal(18));
        Twin.refused("too near", UnsupportedOperationException.class, Lands.FULL, of -> of.appeal(19));
        Twin.refused("no arms", UnsupportedOperationException.class, Lands.FULL, of -> of.sue(0, 20));
        Twin.refused("oneself", UnsupportedOperationException.class, Lands.FULL, of -> of.sue(21, 21));
        Twin.refused("the same arms", UnsupportedOperationException.class, Lands.FULL, of -> of.sue(0, 24));
        Twin.refused("nobody", IndexOutOfBoundsException.class, Lands.FULL, of -> of.sue(0, 40));
        Twin.refused("no judgment", IndexOutOfBoundsException.class, Lands.FULL, of -> of.appeal(20));
        Blazonry nineteen = new Blazonry();
        for (int p = 0; p < 23; p++) {
            Lands.man(nineteen, -1);
            Lands.assume(nineteen, p, 0, 3);
        }
        for (int p = 1; p < 20; p++) {
            nineteen.sue(0, p);
        }
        Check.due("the 20th", 19, () -> nineteen.sue(20, 21));
        Check.due("no 21st", "throws.IllegalStateException", () -> nineteen.sue(0, 22));
    }
}
