import java.util.NoSuchElementException;

/** The bounds that the document names for promises 14 to 21, and in the section Kin. */
public final class EdgeKinTest {
    private static final Twin.Maker YEAR_4950 = () -> inYear(4950);
    private static final Twin.Maker YEAR_5000 = () -> inYear(5000);
    private static final Twin.Maker FORTY = () -> crowd(40);
    private static final Twin.Maker THIRTY_NINE = () -> crowd(39);

    public static void main(String[] args) {
        years();
        fortyPersons();
        parents();
        childrenOfTheDead();
        deaths();
        abeyancesByDeath();
        whoMayMarry();
        endsOfMarriages();
        heiressOrNot();
        maleLine();
        longestLine();
        heirs();
        howManythSon();
        Check.end();
    }

    private static Blazonry inYear(int year) {
        Blazonry land = new Blazonry();
        for (int gone = 0; gone < year; gone += 50) {
            land.pass(50);
        }
        return land;
    }

    /** A man, a woman, and men without parents up to so many persons. */
    private static Blazonry crowd(int count) {
        Blazonry land = new Blazonry();
        Lands.man(land, -1);
        Lands.woman(land, -1);
        for (int p = 2; p < count; p++) {
            Lands.man(land, -1);
        }
        return land;
    }

    /** years: how many, 1 to 100; IllegalStateException if the year would be above 5000. */
    private static void years() {
        Check.due("the least", 1, () -> new Blazonry().pass(1));
        Check.due("the greatest", 100, () -> new Blazonry().pass(100));
        for (int years : new int[] {Integer.MIN_VALUE, -1, 0, 101, Integer.MAX_VALUE}) {
            Twin.refused("pass " + years, IllegalArgumentException.class, Lands.EMPTY, land -> land.pass(years));
            Twin.refused("out of range first", IllegalArgumentException.class, YEAR_5000, land -> land.pass(years));
            Twin.refused("out of range first", IllegalArgumentException.class, YEAR_4950, land -> land.pass(years));
        }
        Check.due("to 5000", 5000, () -> YEAR_4950.make().pass(50));
        Check.due("to 4999", 4999, () -> YEAR_4950.make().pass(49));
        Twin.refused("to 5001", IllegalStateException.class, YEAR_4950, land -> land.pass(51));
        Twin.refused("to 5050", IllegalStateException.class, YEAR_4950, land -> land.pass(100));
        Twin.refused("to 5001", IllegalStateException.class, YEAR_5000, land -> land.pass(1));
        Twin.refused("to 5100", IllegalStateException.class, YEAR_5000, land -> land.pass(100));
        Check.due("the year 5000", 5000, () -> YEAR_5000.make().year());
        Blazonry last = YEAR_5000.make();
        Lands.man(last, -1);
        Lands.grant(last, 0, 0, 3);
        Check.due("arms of the year 5000", 5000, () -> last.yearOf(0));
    }

    /** At most 40 persons are numbered from 0. */
    private static void fortyPersons() {
        Check.due("the first", 0, () -> new Blazonry().birth(-1, -1, false));
        Check.due("the 40th", 39, () -> THIRTY_NINE.make().birth(-1, -1, true));
        Twin.refused("a 41st man", IllegalStateException.class, FORTY, land -> land.birth(-1, -1, true));
        Twin.refused("a 41st woman", IllegalStateException.class, FORTY, land -> land.birth(0, 1, false));
        Twin.refused("a woman as father first", UnsupportedOperationException.class, FORTY,
                land -> land.birth(1, -1, true));
        Twin.refused("a man as mother first", UnsupportedOperationException.class, FORTY,
                land -> land.birth(-1, 0, true));
        Twin.refused("no father first", IndexOutOfBoundsException.class, FORTY, land -> land.birth(40, -1, true));
        Twin.refused("no mother first", IndexOutOfBoundsException.class, FORTY, land -> land.birth(-1, 40, true));
        Blazonry dead = FORTY.make();
        dead.death(39);
        Check.due("the dead are counted", "throws.IllegalStateException", () -> dead.birth(-1, -1, true));
        Check.due("and stay", 40, dead::persons);
        Check.due("the last is there", false, () -> dead.lives(39));
    }

    /** father, mother: the number, or -1; UnsupportedOperationException if the father is no man, or the mother no woman. */
    private static void parents() {
        Twin.Maker two = () -> crowd(2);
        Check.due("none", 2, () -> two.make().birth(-1, -1, true));
        Check.due("the least as father", 2, () -> two.make().birth(0, -1, true));
        Check.due("the greatest as mother", 2, () -> two.make().birth(-1, 1, true));
        Check.due("both", 2, () -> two.make().birth(0, 1, false));
        for (int number : new int[] {Integer.MIN_VALUE, -2, 2, 3, 40, Integer.MAX_VALUE}) {
            Twin.refused("father", IndexOutOfBoundsException.class, two, land -> land.birth(number, -1, true));
            Twin.refused("mother", IndexOutOfBoundsException.class, two, land -> land.birth(-1, number, true));
            Twin.refused("with a mother", IndexOutOfBoundsException.class, two, land -> land.birth(number, 1, true));
            Twin.refused("no mother, before a woman as father", IndexOutOfBoundsException.class, two,
                    land -> land.birth(1, number, true));
            Twin.refused("no father, before a man as mother", IndexOutOfBoundsException.class, two,
                    land -> land.birth(number, 0, true));
        }
        Twin.refused("a woman as father", UnsupportedOperationException.class, two, land -> land.birth(1, -1, true));
        Twin.refused("a man as mother", UnsupportedOperationException.class, two, land -> land.birth(-1, 0, true));
        Twin.refused("the other way round", UnsupportedOperationException.class, two, land -> land.birth(1, 0, true));
        Twin.refused("a man as both", UnsupportedOperationException.class, two, land -> land.birth(0, 0, true));
        Twin.refused("a woman as both", UnsupportedOperationException.class, two, land -> land.birth(1, 1, true));
        Twin.refused("not oneself", IndexOutOfBoundsException.class, two, land -> land.birth(2, -1, true));
    }

    /** A father and a mother who were told before, living or not; the child lives. */
    private static void childrenOfTheDead() {
        Blazonry land = crowd(2);
        land.death(0);
        land.death(1);
        Check.due("child of the dead", 2, () -> land.birth(0, 1, true));
        Check.due("who lives", true, () -> land.lives(2));
        Check.due("of his line", 1, () -> land.lineOf(0));
    }

    /** A person lives until told to have died. */
    private static void deaths() {
        Blazonry land = crowd(2);
        Check.due("lives", true, () -> land.lives(0));
        Check.due("death", 0, () -> land.death(0));
        Check.due("lives no more", false, () -> land.lives(0));
        Check.due("the other lives", true, () -> land.lives(1));
        Twin.Maker dead = () -> {
            Blazonry made = crowd(3);
            made.death(0);
            made.death(2);
            return made;
        };
        Twin.refused("dead already", UnsupportedOperationException.class, dead, of -> of.death(0));
        Twin.refused("dead already", UnsupportedOperationException.class, dead, of -> of.death(2));
        Twin.refused("dead already", UnsupportedOperationException.class, Lands.FAMILY, of -> of.death(7));
        Check.due("the one between", 0, () -> dead.make().death(1));
        Twin.Maker kept = EdgeKinTest::deadAsTheyDied;
        for (int person : new int[] {0, 1, 3, 4, 6}) {
            Twin.refused("as they died", UnsupportedOperationException.class, kept, of -> of.death(person));
        }
        Blazonry made = kept.make();
        made.setRank(1, 1);
        Check.due("had as an heir", 55, () -> made.crest(1));
        Check.due("by a mother who died as an heiress", 2, () -> made.quarters(5));
        Check.due("void", "throws.NoSuchElementException", () -> made.borne(6));
        made.appeal(0);
        Check.due("restored", 2, () -> made.borne(6));
    }

    /**
     * 1 died as the heir of 0, who told a crest; 4, the daughter of 3, as an heiress, though 8 was born since; the arms
     * of 6 are void since his death, by a suit of 2 against his son 7.
     */
    private static Blazonry deadAsTheyDied() {
        Blazonry land = new Blazonry();
        Lands.man(land, -1);
        Lands.man(land, 0);
        Lands.man(land, -1);
        Lands.man(land, -1);
        Lands.woman(land, 3);
        land.birth(2, 4, true);
        Lands.man(land, -1);
        Lands.man(land, 6);
        Lands.grant(land, 0, 1, 7);
        Lands.grant(land, 2, 0, 3);
        Lands.assume(land, 6, 0, 3, 64, 54, 1);
        Lands.grant(land, 3, 2, 5);
        land.setCrest(0, 55);
        for (int person : new int[] {0, 1, 3, 4, 6}) {
            land.death(person);
        }
        Lands.man(land, 3);
        land.sue(2, 7);
        return land;
    }

    /** Returns how many arms are in abeyance then. */
    private static void abeyancesByDeath() {
        Blazonry land = new Blazonry();
        for (int f = 0; f < 2; f++) {
            int father = Lands.man(land, -1);
            Lands.woman(land, father);
            Lands.woman(land, father);
            Lands.grant(land, father, 0, 3 + f);
        }
        Lands.man(land, -1);
        Check.due("none", 0, () -> land.death(6));
        Check.due("one", 1, () -> land.death(0));
        Check.due("two", 2, () -> land.death(3));
        Check.due("one again", 1, () -> land.death(1));
        Check.due("none again", 0, () -> land.death(5));
    }

    /** A man can marry a woman, both living and without a living wife or husband. */
    private static void whoMayMarry() {
        Twin.Maker maker = () -> {
            Blazonry land = new Blazonry();
            for (int p = 0; p < 8; p++) {
                land.birth(-1, -1, p % 2 == 0);
            }
            land.marry(0, 1);
            land.death(6);
            land.death(7);
            return land;
        };
        int[][] wrong = {{2, 4}, {3, 5}, {3, 2}, {2, 2}, {3, 3}, {0, 3}, {2, 1}, {0, 1}, {6, 3}, {2, 7}, {6, 7}, {7, 6}};
        for (int[] pair : wrong) {
            Twin.refused("marry " + pair[0] + " " + pair[1], UnsupportedOperationException.class, maker,
                    land -> land.marry(pair[0], pair[1]));
        }
        for (int number : new int[] {Integer.MIN_VALUE, -1, 8, 40, Integer.MAX_VALUE}) {
            Twin.refused("no man", IndexOutOfBoundsException.class, maker, land -> land.marry(number, 3));
            Twin.refused("no woman", IndexOutOfBoundsException.class, maker, land -> land.marry(2, number));
            Twin.refused("a woman as man", IndexOutOfBoundsException.class, maker, land -> land.marry(3, number));
            Twin.refused("a dead man", IndexOutOfBoundsException.class, maker, land -> land.marry(6, number));
            Twin.refused("a man as woman", IndexOutOfBoundsException.class, maker, land -> land.marry(number, 2));
        }
        Blazonry land = maker.make();
        Check.due("marry", false, () -> land.marry(4, 3));
        Check.due("wife", 3, () -> land.spouse(4));
        Check.due("husband", 4, () -> land.spouse(3));
        Check.due("the others' wife", 1, () -> land.spouse(0));
        for (int single : new int[] {2, 5, 6, 7}) {
            Check.due("single", "throws.NoSuchElementException", () -> land.spouse(single));
        }
        Twin.refused("single", NoSuchElementException.class, maker, of -> of.spouse(2));
    }

    /** A marriage ends with a death of either. */
    private static void endsOfMarriages() {
        for (int dead = 0; dead < 2; dead++) {
            Blazonry land = new Blazonry();
            for (int p = 0; p < 4; p++) {
                land.birth(-1, -1, p % 2 == 0);
            }
            land.marry(0, 1);
            int gone = dead;
            int left = 1 - dead;
            land.death(gone);
            Check.due("of the one left", "throws.NoSuchElementException", () -> land.spouse(left));
            Check.due("of the dead", "throws.NoSuchElementException", () -> land.spouse(gone));
            Check.due("not with the dead", "throws.UnsupportedOperationException", () -> land.marry(0, 1));
            Check.due("another one", false, () -> left == 0 ? land.marry(0, 3) : land.marry(2, 1));
            Check.due("married again", left == 0 ? 3 : 2, () -> land.spouse(left));
            land.death(left);
            Check.due("none for the second", "throws.NoSuchElementException", () -> land.spouse(left == 0 ? 3 : 2));
        }
    }

    /** A woman is an heiress if her father is told and dead, and nobody of his male line lives; living or not. */
    private static void heiressOrNot() {
        Blazonry land = new Blazonry();
        int father = Lands.man(land, -1);
        int mother = Lands.woman(land, -1);
        int daughter = land.birth(father, mother, false);
        int half = land.birth(father, -1, true);
        int uterine = land.birth(-1, mother, true);
        int husband = Lands.man(land, -1);
        Check.due("no father told", false, () -> land.isHeiress(mother));
        Check.due("the father lives", false, () -> land.isHeiress(daughter));
        Check.due("as she marries", false, () -> land.marry(husband, daughter));
        land.death(father);
        Check.due("a half brother lives", false, () -> land.isHeiress(daughter));
        int nephew = land.birth(half, -1, true);
        land.death(half);
        Check.due("his son lives", false, () -> land.isHeiress(daughter));
        Check.due("a man is none", false, () -> land.isHeiress(nephew));
        int niece = land.birth(nephew, -1, false);
        land.death(nephew);
        Check.due("a niece is of no male line", true, () -> land.isHeiress(daughter));
        Check.due("she is one herself", true, () -> land.isHeiress(niece));
        Check.due("nor the mother's son", true, () -> land.lives(uterine));
        Check.due("a man never", false, () -> land.isHeiress(half));
        Check.due("nor her husband", false, () -> land.isHeiress(husband));
        land.death(husband);
        int second = Lands.man(land, -1);
        Check.due("as she marries", true, () -> land.marry(second, daughter));
        land.death(daughter);
        Check.due("not living", true, () -> land.isHeiress(daughter));
        land.birth(father, -1, true);
        Check.due("as things are now", false, () -> land.isHeiress(daughter));
    }

    /** The male line of a man are his sons, their sons, and so on; a woman has none. */
    private static void maleLine() {
        Blazonry land = new Blazonry();
        int first = Lands.man(land, -1);
        int wife = Lands.woman(land, -1);
        Check.due("none yet", 0, () -> land.lineOf(first));
        int son = land.birth(first, wife, true);
        int daughter = land.birth(first, wife, false);
        Check.due("a son", 1, () -> land.lineOf(first));
        Check.due("of the mother", 0, () -> land.lineOf(wife));
        land.birth(-1, daughter, true);
        Check.due("no sons of daughters", 1, () -> land.lineOf(first));
        int grandson = land.birth(son, daughter, true);
        Check.due("a grandson", 2, () -> land.lineOf(first));
        Check.due("not oneself", 0, () -> land.lineOf(grandson));
        Check.due("a woman has none", 0, () -> land.lineOf(daughter));
        land.death(son);
        Check.due("the dead do not live", 1, () -> land.lineOf(first));
        land.death(first);
        Check.due("of the dead", 1, () -> land.lineOf(first));
        Check.due("of the dead", 1, () -> land.lineOf(son));
        land.death(grandson);
        Check.due("none any more", 0, () -> land.lineOf(first));
    }

    /** A line of 40 men, the longest one. */
    private static void longestLine() {
        Blazonry land = new Blazonry();
        for (int p = 0; p < 40; p++) {
            Lands.man(land, p - 1);
        }
        Check.due("of the first", 39, () -> land.lineOf(0));
        Check.due("of the one before the last", 1, () -> land.lineOf(38));
        Check.due("of the last", 0, () -> land.lineOf(39));
        land.death(39);
        Check.due("of the first", 38, () -> land.lineOf(0));
        land.death(0);
        Check.due("of the first", 38, () -> land.lineOf(0));
        Blazonry broad = new Blazonry();
        Lands.man(broad, -1);
        for (int p = 1; p < 40; p++) {
            Lands.man(broad, 0);
        }
        Check.due("39 sons", 39, () -> broad.lineOf(0));
        Check.due("of a son", 0, () -> broad.lineOf(39));
    }

    private static void marks(Blazonry land, int want, int person) {
        Check.due("differences of " + person, want, () -> land.differences(person));
    }

    /** The heir is that living son of whose elder brothers nobody lives, nor anybody of their male lines. */
    private static void heirs() {
        Blazonry land = new Blazonry();
        int father = Lands.man(land, -1);
        int eldest = Lands.man(land, father);
        Lands.woman(land, father);
        int second = Lands.man(land, father);
        int third = Lands.man(land, father);
        Lands.grant(land, father, 0, 3);
        int great = Lands.man(land, Lands.man(land, eldest));
        Lands.woman(land, eldest);
        land.death(eldest);
        marks(land, 1, second);
        land.death(father);
        marks(land, 1, second);
        marks(land, 1, third);
        land.death(5);
        marks(land, 1, second);
        land.death(great);
        marks(land, 0, second);
        marks(land, 1, third);
        int born = Lands.man(land, great);
        marks(land, 1, second);
        land.death(born);
        marks(land, 0, second);
        land.death(second);
        marks(land, 0, third);
        int fourth = Lands.man(land, father);
        marks(land, 1, fourth);
        marks(land, 0, third);
        int late = Lands.man(land, second);
        marks(land, 1, third);
        marks(land, 0, late);
        land.death(late);
        land.death(third);
        marks(land, 0, fourth);
        land.death(fourth);
        marks(land, 0, fourth);
        marks(land, 0, late);
        marks(land, 1, eldest);
    }

    /** How many-th son he is, from 1 on: daughters, sons of the mother and younger ones do not count, the dead do. */
    private static void howManythSon() {
        Blazonry land = new Blazonry();
        int father = Lands.man(land, -1);
        int mother = Lands.woman(land, -1);
        Lands.grant(land, father, 0, 3);
        land.birth(father, mother, false);
        land.birth(-1, mother, true);
        int one = land.birth(father, mother, true);
        Check.due("the first", 1, () -> land.difference(one, 0));
        land.death(one);
        int two = land.birth(father, -1, true);
        Check.due("the second", 2, () -> land.difference(two, 0));
        Lands.woman(land, father);
        int three = land.birth(father, mother, true);
        Check.due("the third", 3, () -> land.difference(three, 0));
        Check.due("the second still", 2, () -> land.difference(two, 0));
        Blazonry broad = new Blazonry();
        Lands.man(broad, -1);
        Lands.grant(broad, 0, 0, 3);
        for (int p = 1; p < 40; p++) {
            Lands.man(broad, 0);
        }
        Check.due("the 39th", 39, () -> broad.difference(39, 0));
    }
}
