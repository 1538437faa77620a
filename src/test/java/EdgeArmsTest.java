import java.util.NoSuchElementException;

/** The bounds that the document names for promises 22 to 33, and in the section Arms. */
public final class EdgeArmsTest {
    private static final String NONE = "throws.NoSuchElementException";
    private static final int[] NO_LANDS = {Integer.MIN_VALUE, -1, 4, Integer.MAX_VALUE};
    private static final Twin.Maker WRONG_ROW = () -> Check.typed(Lands.FAMILY.make(), 3, 22);
    private static final Twin.Maker FULL_ROLL = () -> roll(24);

    public static void main(String[] args) {
        landsOfGrants();
        refusedGrants();
        refusedAssumptions();
        twentyFourArms();
        orderOfExceptions();
        emptyRowBehind();
        whoGetsWhat();
        latestOnes();
        fallenArms();
        fathersArms();
        ofTheDead();
        voidArms();
        voidDifferences();
        differenceIndices();
        fortyGenerations();
        lastHeiresses();
        fewestDifferencesOfTheDead();
        callings();
        extinctOrNot();
        pointsOfArms();
        Check.end();
    }

    private static void borne(Blazonry land, String want, int person) {
        StringBuilder got = new StringBuilder(Check.told(() -> land.borne(person)));
        if (!got.toString().startsWith("throws")) {
            for (int i = 0; i < land.differences(person); i++) {
                got.append(' ').append(land.difference(person, i));
            }
        }
        Check.same("borne by " + person, want, got.toString());
    }

    /** A land with so many arms: those with even numbers granted, the others assumed, all of the person 0. */
    private static Blazonry roll(int count) {
        Blazonry land = new Blazonry();
        Lands.man(land, -1);
        Lands.man(land, -1);
        Lands.man(land, -1);
        for (int a = 0; a < count; a++) {
            Check.typed(land, 1 + a % 8);
            if (a % 2 == 0) {
                land.grant(0, 0);
            } else {
                land.assume(0, 1 + a / 2 % 2);
            }
        }
        land.death(2);
        return Check.typed(land, 3);
    }

    /** land: the land, 0 to 3. */
    private static void landsOfGrants() {
        for (int l = 0; l < 4; l++) {
            int of = l;
            Check.due("granted in " + l, 0, () -> Lands.grant(crowd(), 0, of, 3));
            Check.due("assumed in " + l, 0, () -> Lands.assume(crowd(), 0, of, 3));
            Blazonry land = crowd();
            Lands.grant(land, 0, of, 3);
            Check.typed(land, 3);
            for (int other = 0; other < 4; other++) {
                int in = other;
                Check.due("near in " + other, of == in ? 1 : 0, () -> land.conflicts(1, in));
            }
        }
        for (int of : NO_LANDS) {
            Twin.refused("no land", IllegalArgumentException.class, Lands.FAMILY, land -> land.grant(10, of));
            Twin.refused("no land", IllegalArgumentException.class, Lands.FAMILY, land -> land.assume(10, of));
        }
    }

    private static Blazonry crowd() {
        Blazonry land = new Blazonry();
        Lands.man(land, -1);
        Lands.man(land, -1);
        return land;
    }

    /** UnsupportedOperationException if the row is wrong, the person is dead, or there are arms with which it conflicts. */
    private static void refusedGrants() {
        Twin.refused("a wrong row", UnsupportedOperationException.class, WRONG_ROW, land -> land.grant(10, 3));
        Twin.refused("an empty row", UnsupportedOperationException.class, () -> Check.typed(Lands.FAMILY.make()),
                land -> land.grant(10, 3));
        Twin.refused("the dead", UnsupportedOperationException.class, Lands.FAMILY, land -> land.grant(11, 3));
        Twin.Maker near = () -> Check.typed(Lands.FAMILY.make(), 3);
        Twin.refused("a conflict", UnsupportedOperationException.class, near, land -> land.grant(10, 0));
        Check.due("none in another land", 6, () -> near.make().grant(10, 1));
    }

    /** UnsupportedOperationException if the row is wrong, the person is dead, or bears arms of this land. */
    private static void refusedAssumptions() {
        Twin.refused("a wrong row", UnsupportedOperationException.class, WRONG_ROW, land -> land.assume(10, 3));
        Twin.refused("an empty row", UnsupportedOperationException.class, () -> Check.typed(Lands.FAMILY.make()),
                land -> land.assume(10, 3));
        Twin.refused("the dead", UnsupportedOperationException.class, Lands.FAMILY, land -> land.assume(11, 3));
        for (int bearer : new int[] {0, 2, 4, 5}) {
            Twin.refused("arms of this land", UnsupportedOperationException.class, Lands.FAMILY,
                    land -> land.assume(bearer, 0));
            Check.due("of another land", 6, () -> Lands.FAMILY.make().assume(bearer, 1));
        }
        Check.due("void ones are not borne", 6, () -> Lands.FAMILY.make().assume(12, 0));
        Check.due("nor those in abeyance by her alone", "throws.UnsupportedOperationException",
                () -> Lands.FAMILY.make().assume(8, 1));
        // what is assumed is not looked at for conflicts
        Check.due("near", 6, () -> Check.typed(Lands.FAMILY.make(), 3).assume(10, 0));
    }

    /** At most 24 arms are numbered from 0. */
    private static void twentyFourArms() {
        Check.due("the 24th", 23, () -> roll(23).grant(1, 3));
        Check.due("the 24th", 23, () -> roll(23).assume(1, 3));
        Twin.refused("a 25th", IllegalStateException.class, FULL_ROLL, land -> land.grant(1, 3));
        Twin.refused("a 25th", IllegalStateException.class, FULL_ROLL, land -> land.assume(1, 3));
        Twin.refused("void ones are counted", IllegalStateException.class, () -> {
            Blazonry land = roll(24);
            land.visit(1);
            land.visit(2);
            return land;
        }, land -> land.assume(1, 3));
        Blazonry land = roll(24);
        for (int a = 0; a < 24; a++) {
            int arms = a;
            Check.due("came", a % 2 == 0 ? 'g' : 'u', () -> land.cameBy(arms));
            Check.due("tincture", 1 + a % 8, () -> land.ofArms(arms, 15, 15));
        }
    }

    /** If several exceptions apply, the one that is listed first is thrown. */
    private static void orderOfExceptions() {
        Twin.Maker wrong = () -> Check.typed(roll(24), 3, 3);
        Twin.Maker near = () -> Check.typed(roll(24), 7);
        for (int person : new int[] {-1, 3}) {
            for (int of : new int[] {-1, 0, 4}) {
                Twin.refused("no person", IndexOutOfBoundsException.class, wrong, land -> land.grant(person, of));
                Twin.refused("no person", IndexOutOfBoundsException.class, wrong, land -> land.assume(person, of));
                Twin.refused("no person", IndexOutOfBoundsException.class, near, land -> land.grant(person, of));
                Twin.refused("no person", IndexOutOfBoundsException.class, near, land -> land.assume(person, of));
            }
        }
        for (int of : NO_LANDS) {
            for (int person = 0; person < 3; person++) {
                int who = person;
                Twin.refused("no land", IllegalArgumentException.class, wrong, land -> land.grant(who, of));
                Twin.refused("no land", IllegalArgumentException.class, wrong, land -> land.assume(who, of));
                Twin.refused("no land", IllegalArgumentException.class, near, land -> land.grant(who, of));
                Twin.refused("no land", IllegalArgumentException.class, near, land -> land.assume(who, of));
            }
        }
        Twin.refused("a wrong row", UnsupportedOperationException.class, wrong, land -> land.grant(1, 3));
        Twin.refused("a wrong row", UnsupportedOperationException.class, wrong, land -> land.assume(1, 3));
        Twin.refused("the dead", UnsupportedOperationException.class, FULL_ROLL, land -> land.grant(2, 3));
        Twin.refused("the dead", UnsupportedOperationException.class, FULL_ROLL, land -> land.assume(2, 3));
        // the last arms of 0 are of the land 2 and 8 all over
        Twin.refused("a conflict", UnsupportedOperationException.class, () -> Check.typed(roll(24), 8),
                land -> land.grant(1, 2));
        Twin.refused("arms of this land", UnsupportedOperationException.class, FULL_ROLL, land -> land.assume(0, 2));
        Twin.refused("no conflict", IllegalStateException.class, near, land -> land.grant(1, 1));
        Twin.refused("arms of another land", IllegalStateException.class, near, land -> land.assume(0, 1));
    }

    /** The row is empty then; a refused call leaves it. */
    private static void emptyRowBehind() {
        Blazonry land = crowd();
        Lands.grant(land, 0, 0, Lands.TWENTY_FOUR);
        Check.due("no words", 0, land::wrongAt);
        Check.due("room again", 1, () -> land.type(3));
        Check.due("a blazon again", -1, land::wrongAt);
        Check.due("its points", 256, () -> land.points(2, 3));
        Check.due("assumed", 1, () -> land.assume(1, 3));
        Check.due("no words", 0, land::erase);
        Check.due("the arms have theirs", 12.5, land::meanWords);
        Check.due("a word of 24", 1, () -> land.withWord(62));
    }

    /** Each with a first bearer, a year, and how it came. */
    private static void whoGetsWhat() {
        Blazonry land = crowd();
        Lands.grant(land, 0, 0, 3);
        land.pass(100);
        Lands.assume(land, 1, 3, 4);
        Check.due("granted", 'g', () -> land.cameBy(0));
        Check.due("assumed", 'u', () -> land.cameBy(1));
        Check.due("in the year 0", 0, () -> land.yearOf(0));
        Check.due("in the year 100", 100, () -> land.yearOf(1));
        borne(land, "0", 0);
        borne(land, "1", 1);
        Blazonry other = crowd();
        Lands.woman(other, -1);
        Lands.grant(other, 2, 0, 3);
        borne(other, "0", 2);
        borne(other, NONE, 0);
    }

    /** Of those of which this one is the first bearer and which are not void, the latest ones, without differences. */
    private static void latestOnes() {
        Blazonry land = crowd();
        int son = Lands.man(land, 0);
        Lands.grant(land, son, 0, 4);
        Lands.grant(land, 0, 0, 3);
        borne(land, "0", son);
        Lands.assume(land, 0, 1, 5);
        Lands.assume(land, 0, 2, 6);
        borne(land, "3", 0);
        borne(land, "0", son);
        land.visit(2);
        borne(land, "2", 0);
        land.visit(1);
        borne(land, "1", 0);
        Check.due("void", "vv", () -> "" + land.cameBy(2) + land.cameBy(3));
    }

    /** As an heiress, arms that fall to her, the lowest ones, without differences; ahead of those of the father. */
    private static void fallenArms() {
        Blazonry land = new Blazonry();
        int father = Lands.man(land, -1);
        Lands.man(land, father);
        int younger = Lands.man(land, father);
        int daughter = Lands.woman(land, younger);
        Lands.grant(land, father, 1, 3);
        Lands.assume(land, younger, 0, 4);
        Lands.grant(land, younger, 2, 5);
        borne(land, "2", daughter);
        land.death(younger);
        borne(land, "2", daughter);
        Blazonry other = new Blazonry();
        int man = Lands.man(other, -1);
        int girl = Lands.woman(other, man);
        Lands.grant(other, man, 0, 3);
        Lands.grant(other, man, 0, 4);
        other.death(man);
        borne(other, "1", girl);
        Lands.grant(other, girl, 0, 5);
        borne(other, "2", girl);
        differencesGone();
    }

    /** A daughter of a younger son has his difference, until the arms fall to her. */
    private static void differencesGone() {
        Blazonry land = new Blazonry();
        int father = Lands.man(land, -1);
        int elder = Lands.man(land, father);
        int younger = Lands.man(land, father);
        int daughter = Lands.woman(land, younger);
        Lands.grant(land, father, 0, 3);
        borne(land, "0 2", daughter);
        land.death(elder);
        land.death(younger);
        borne(land, "0 2", daughter);
        Lands.grant(land, father, 0, 5);
        land.death(father);
        borne(land, "0", daughter);
        Check.due("not extinct", false, () -> land.isExtinct(0));
        land.death(daughter);
        borne(land, "0", daughter);
        Check.due("extinct", true, () -> land.isExtinct(0));
    }

    /** What the father bears: a woman with his differences, a man with these and one more if he is no heir. */
    private static void fathersArms() {
        Blazonry land = new Blazonry();
        int father = Lands.man(land, -1);
        int son = Lands.man(land, father);
        int daughter = Lands.woman(land, father);
        int second = Lands.man(land, father);
        int grandson = Lands.man(land, second);
        int granddaughter = Lands.woman(land, second);
        for (int p : new int[] {father, son, daughter, second, grandson, granddaughter}) {
            borne(land, NONE, p);
        }
        Lands.assume(land, father, 0, 3);
        borne(land, "0", father);
        borne(land, "0 1", son);
        borne(land, "0", daughter);
        borne(land, "0 2", second);
        borne(land, "0 2 1", grandson);
        borne(land, "0 2", granddaughter);
        land.death(second);
        borne(land, "0 2", grandson);
        land.death(father);
        borne(land, "0", son);
        borne(land, "0 2", second);
        borne(land, "0 2", grandson);
        int motherless = land.birth(-1, daughter, true);
        borne(land, NONE, motherless);
    }

    /** Who died bears for good what was borne then. */
    private static void ofTheDead() {
        Blazonry land = new Blazonry();
        int father = Lands.man(land, -1);
        int son = Lands.man(land, father);
        int bare = Lands.man(land, -1);
        land.death(bare);
        borne(land, NONE, bare);
        Lands.grant(land, father, 0, 3);
        land.death(son);
        borne(land, "0 1", son);
        Lands.grant(land, father, 0, 4);
        borne(land, "0 1", son);
        borne(land, "1", father);
        land.death(father);
        borne(land, "0 1", son);
        borne(land, "1", father);
        int grandson = Lands.man(land, son);
        borne(land, "0 1", grandson);
        Blazonry late = new Blazonry();
        Lands.man(late, -1);
        Lands.man(late, 0);
        late.death(1);
        Lands.grant(late, 0, 0, 3);
        borne(late, NONE, 1);
    }

    /** 'v': it is void now, and borne by nobody, not by the dead either; as before by an appeal. */
    private static void voidArms() {
        Blazonry land = new Blazonry();
        int father = Lands.man(land, -1);
        int son = Lands.man(land, father);
        int rival = Lands.man(land, -1);
        Lands.grant(land, rival, 0, 3);
        Lands.assume(land, father, 0, 3, 64, 54, 1);
        land.death(father);
        borne(land, "1", son);
        Check.due("sue", 0, () -> land.sue(rival, son));
        Check.due("void", 'v', () -> land.cameBy(1));
        borne(land, NONE, son);
        borne(land, NONE, father);
        Check.due("nobody", 0, () -> land.bearers(1));
        Check.due("extinct", true, () -> land.isExtinct(1));
        Check.due("no abeyance", false, () -> land.isInAbeyance(1));
        Check.due("appeal", 1, () -> land.appeal(0));
        Check.due("as before", 'u', () -> land.cameBy(1));
        borne(land, "1", son);
        borne(land, "1", father);
        borne(land, NONE, rival);
    }

    /** A dead son with a difference bears nothing of arms that are void, until they are restored. */
    private static void voidDifferences() {
        Twin.Maker maker = () -> {
            Blazonry land = new Blazonry();
            int father = Lands.man(land, -1);
            int son = Lands.man(land, father);
            int rival = Lands.man(land, -1);
            Lands.grant(land, rival, 0, 3);
            Lands.assume(land, father, 0, 3, 64, 54, 1);
            land.death(son);
            land.sue(father, rival);
            return land;
        };
        Twin.refused("no arms", NoSuchElementException.class, maker, land -> land.borne(1));
        Twin.refused("no differences", NoSuchElementException.class, maker, land -> land.differences(1));
        Twin.refused("no difference", NoSuchElementException.class, maker, land -> land.difference(1, 0));
        Twin.refused("no shield", NoSuchElementException.class, maker, land -> land.ofShield(1, 0, 0));
        Twin.refused("no quarter", NoSuchElementException.class, maker, land -> land.quarter(1, 0));
        Check.due("no quarters", 0, () -> maker.make().quarters(1));
        Blazonry land = maker.make();
        land.appeal(0);
        borne(land, "1 1", 1);
        Check.due("his quarter", 1, () -> land.quarters(1));
    }

    /** index, from 0; NoSuchElementException if there is no such difference, or no arms. */
    private static void differenceIndices() {
        Twin.Maker maker = () -> {
            Blazonry land = crowd();
            int son = Lands.man(land, 0);
            Lands.man(land, 0);
            Lands.man(land, Lands.man(land, son));
            Lands.grant(land, 0, 0, 3);
            return land;
        };
        Check.due("of the first bearer", 0, () -> maker.make().differences(0));
        Check.due("of the second son", 1, () -> maker.make().differences(3));
        Check.due("of the great-grandson", 3, () -> maker.make().differences(5));
        Check.due("its only one", 2, () -> maker.make().difference(3, 0));
        Check.due("its last", 1, () -> maker.make().difference(5, 2));
        for (int index : new int[] {Integer.MIN_VALUE, -1, 3, 40, Integer.MAX_VALUE}) {
            for (int person = 0; person < 6; person++) {
                int who = person;
                Twin.refused("difference", NoSuchElementException.class, maker, land -> land.difference(who, index));
            }
        }
        Twin.refused("the first bearer", NoSuchElementException.class, maker, land -> land.difference(0, 0));
        Twin.refused("behind the only one", NoSuchElementException.class, maker, land -> land.difference(3, 1));
        Twin.refused("no arms", NoSuchElementException.class, maker, land -> land.borne(1));
        Twin.refused("no arms", NoSuchElementException.class, maker, land -> land.differences(1));
        Twin.refused("no arms", NoSuchElementException.class, maker, land -> land.difference(1, 0));
        for (int person : new int[] {-1, 6}) {
            Twin.refused("no person", IndexOutOfBoundsException.class, maker, land -> land.difference(person, 9));
        }
    }

    /** The 40th of a line has 39 differences. */
    private static void fortyGenerations() {
        Twin.Maker maker = () -> {
            Blazonry land = new Blazonry();
            for (int p = 0; p < 40; p++) {
                Lands.man(land, p - 1);
            }
            Lands.grant(land, 0, 1, 3);
            return land;
        };
        Blazonry land = maker.make();
        Check.due("differences", 39, () -> land.differences(39));
        Check.due("the last", 1, () -> land.difference(39, 38));
        Twin.refused("behind the last", NoSuchElementException.class, maker, of -> of.difference(39, 39));
        Check.due("bearers", 40, () -> land.bearers(0));
        for (int p = 0; p < 39; p++) {
            land.death(p);
        }
        borne(land, "0", 39);
        Check.due("the last bearer", 1, () -> land.bearers(0));
    }

    /** Last heiresses: of not void arms whose first bearer is a dead man of whose male line nobody lives. */
    private static void lastHeiresses() {
        Blazonry land = new Blazonry();
        int father = Lands.man(land, -1);
        int one = Lands.woman(land, father);
        int two = Lands.woman(land, father);
        int son = Lands.man(land, father);
        Lands.grant(land, father, 0, 3);
        abeyance(land, false, 0);
        land.death(son);
        abeyance(land, false, 0);
        int grandson = Lands.man(land, son);
        land.death(father);
        abeyance(land, false, 0);
        Check.due("by the last death", 1, () -> land.death(grandson));
        abeyance(land, true, 0);
        borne(land, "0", one);
        borne(land, "0", two);
        int born = Lands.man(land, grandson);
        abeyance(land, false, 0);
        land.death(born);
        abeyance(land, true, 0);
        int third = Lands.woman(land, father);
        Check.due("three", 3, () -> land.call(0, third));
        abeyance(land, false, 0);
        womanFirst();
        voidOnes();
    }

    private static void abeyance(Blazonry land, boolean want, int arms) {
        Check.due("in abeyance", want, () -> land.isInAbeyance(arms));
    }

    /** The first bearer is no man: nothing falls to her daughters. */
    private static void womanFirst() {
        Blazonry land = new Blazonry();
        int mother = Lands.woman(land, -1);
        land.birth(-1, mother, false);
        land.birth(-1, mother, false);
        Lands.grant(land, mother, 0, 3);
        Check.due("no abeyance", 0, () -> land.death(mother));
        borne(land, NONE, 1);
        Check.due("extinct", true, () -> land.isExtinct(0));
    }

    private static void voidOnes() {
        Blazonry land = new Blazonry();
        int father = Lands.man(land, -1);
        int one = Lands.woman(land, father);
        Lands.woman(land, father);
        Lands.assume(land, father, 0, 3);
        Check.due("an abeyance", 1, () -> land.death(father));
        Check.due("visited", 0, () -> land.visit(0));
        abeyance(land, false, 0);
        Check.due("extinct", true, () -> land.isExtinct(0));
        borne(land, NONE, one);
        Check.due("no call", "throws.UnsupportedOperationException", () -> land.call(0, one));
    }

    /** Those of him who bore them with the fewest differences as he died, of several of the one who died last. */
    private static void fewestDifferencesOfTheDead() {
        for (int last = 1; last <= 3; last++) {
            Blazonry land = new Blazonry();
            int father = Lands.man(land, -1);
            for (int s = 0; s < 3; s++) {
                Lands.man(land, father);
            }
            for (int s = 1; s <= 3; s++) {
                Lands.woman(land, s);
                Lands.woman(land, s);
            }
            Lands.grant(land, father, 0, 3);
            int aunt = Lands.woman(land, father);
            for (int s = 1; s <= 3; s++) {
                if (s != last) {
                    land.death(s);
                }
            }
            land.death(last);
            // he bears other arms as he dies, so that these are those of his sons, with one difference each
            Lands.grant(land, father, 3, 5);
            Check.due("one", 1, () -> land.death(father));
            abeyance(land, true, 0);
            for (int daughter = 4; daughter <= 9; daughter++) {
                int who = daughter;
                if (who / 2 - 1 != last) {
                    Check.due("no daughter of his", "throws.UnsupportedOperationException", () -> land.call(0, who));
                }
            }
            int hers = 2 * last + 3;
            Check.due("a daughter of his", 2, () -> land.call(0, hers));
            Check.due("the other arms fall to the aunt", 1, () -> land.borne(aunt));
        }
    }

    /** If there is one, they fall to her; if there are more, the abeyance, unless one was called, as long as she lives. */
    private static void callings() {
        Twin.Maker maker = () -> {
            Blazonry land = new Blazonry();
            int father = Lands.man(land, -1);
            for (int d = 0; d < 3; d++) {
                Lands.woman(land, father);
            }
            Lands.woman(land, -1);
            Lands.man(land, -1);
            Lands.grant(land, father, 0, 3);
            Lands.grant(land, 5, 1, 3);
            land.death(father);
            return land;
        };
        for (int wrong : new int[] {0, 4, 5}) {
            Twin.refused("none of them", UnsupportedOperationException.class, maker, land -> land.call(0, wrong));
        }
        Twin.refused("no abeyance", UnsupportedOperationException.class, maker, land -> land.call(1, 1));
        Twin.Maker called = () -> {
            Blazonry land = maker.make();
            land.call(0, 2);
            return land;
        };
        for (int daughter = 1; daughter <= 3; daughter++) {
            int who = daughter;
            Twin.refused("no abeyance", UnsupportedOperationException.class, called, land -> land.call(0, who));
        }
        Blazonry land = called.make();
        abeyance(land, false, 0);
        Check.due("an abeyance again", 1, () -> land.death(2));
        Check.due("not the dead", "throws.UnsupportedOperationException", () -> land.call(0, 2));
        Check.due("two are left", 2, () -> land.call(0, 1));
        Check.due("death of another one", 0, () -> land.death(3));
        Check.due("hers alone", 0, () -> land.death(1));
        Check.due("extinct", true, () -> land.isExtinct(0));
        Blazonry one = maker.make();
        one.death(1);
        abeyance(one, true, 0);
        Check.due("one is left", 0, () -> one.death(2));
        abeyance(one, false, 0);
        Check.due("no call for one", "throws.UnsupportedOperationException", () -> one.call(0, 3));
        Check.due("not extinct", false, () -> one.isExtinct(0));
    }

    /** Extinct: nobody living bears them, and they are in no abeyance. */
    private static void extinctOrNot() {
        Blazonry land = new Blazonry();
        int father = Lands.man(land, -1);
        int daughter = Lands.woman(land, father);
        Lands.woman(land, father);
        Lands.grant(land, father, 0, 3);
        Lands.grant(land, father, 0, 4);
        Check.due("nobody bears the first ones", true, () -> land.isExtinct(0));
        Check.due("three bear the second ones", 3, () -> land.bearers(1));
        Lands.grant(land, daughter, 0, 5);
        Lands.grant(land, 2, 0, 6);
        Check.due("he alone", 1, () -> land.bearers(1));
        Check.due("not extinct", false, () -> land.isExtinct(1));
        land.death(father);
        Check.due("nobody", 0, () -> land.bearers(1));
        abeyance(land, true, 1);
        Check.due("in abeyance", false, () -> land.isExtinct(1));
        land.call(1, daughter);
        Check.due("she bears others, and they are hers", true, () -> land.isExtinct(1));
    }

    /** x and y, 0 to 15. */
    private static void pointsOfArms() {
        Blazonry land = crowd();
        Lands.grant(land, 0, 0, 15, 1, 16, 3, 28, 5);
        int[][] corners = {{0, 0, 5}, {15, 0, 5}, {0, 15, 5}, {15, 15, 5}, {7, 7, 1}, {8, 7, 3}, {7, 8, 3}, {8, 8, 1}};
        for (int[] at : corners) {
            Check.due("point", at[2], () -> land.ofArms(0, at[0], at[1]));
        }
        for (int far : new int[] {Integer.MIN_VALUE, -1, 16, Integer.MAX_VALUE}) {
            Twin.refused("x", IndexOutOfBoundsException.class, Lands.FAMILY, of -> of.ofArms(0, far, 0));
            Twin.refused("y", IndexOutOfBoundsException.class, Lands.FAMILY, of -> of.ofArms(5, 15, far));
            Twin.refused("both", IndexOutOfBoundsException.class, Lands.FAMILY, of -> of.ofArms(far, far, far));
        }
        Check.due("void ones too", 3, () -> Lands.FAMILY.make().ofArms(4, 15, 15));
    }
}
