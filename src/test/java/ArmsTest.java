import java.util.NoSuchElementException;

/** Promises 22 to 33: grants, assumptions, who bears what, differences, abeyances and extinction. */
public final class ArmsTest {
    public static void main(String[] args) {
        grants();
        assumptions();
        fullRoll();
        sonsAndHeirs();
        latestArms();
        deadBearers();
        oneHeiress();
        abeyance();
        fewestDifferences();
        points();
        wrongInputs();
        Check.end();
    }

    private static int man(Blazonry land, int father) {
        return land.birth(father, -1, true);
    }

    private static int woman(Blazonry land, int father) {
        return land.birth(father, -1, false);
    }

    private static int grant(Blazonry land, int person, int of, int... words) {
        return Check.typed(land, words).grant(person, of);
    }

    private static void borne(Blazonry land, String want, int person) {
        StringBuilder got = new StringBuilder(Check.told(() -> land.borne(person)));
        String count = Check.told(() -> land.differences(person));
        for (int i = 0; !count.startsWith("throws") && i < Integer.parseInt(count); i++) {
            got.append(' ').append(land.difference(person, i));
        }
        if (!count.startsWith("throws")) {
            Check.due("behind the last", "throws.NoSuchElementException",
                    () -> land.difference(person, Integer.parseInt(count)));
        }
        Check.same("borne by " + person, want, got.toString());
    }

    private static final String NONE = "throws.NoSuchElementException";

    private static void grants() {
        Blazonry land = new Blazonry();
        man(land, -1);
        man(land, -1);
        Check.typed(land, 3, 22, 1);
        Check.refused(land, "grant to -1", IndexOutOfBoundsException.class, () -> land.grant(-1, 0));
        Check.refused(land, "grant to 2", IndexOutOfBoundsException.class, () -> land.grant(2, 4));
        Check.refused(land, "grant in -1", IllegalArgumentException.class, () -> land.grant(0, -1));
        Check.refused(land, "grant in 4", IllegalArgumentException.class, () -> land.grant(0, 4));
        land.pass(7);
        Check.due("grant", 0, () -> land.grant(0, 0));
        Check.due("the row is empty", 0, land::erase);
        Check.due("cameBy", 'g', () -> land.cameBy(0));
        Check.due("yearOf", 7, () -> land.yearOf(0));
        Check.refused(land, "grant of no row", UnsupportedOperationException.class, () -> land.grant(0, 0));
        Check.refused(land, "no land first", IllegalArgumentException.class, () -> land.grant(0, 4));
        Check.typed(land, 3, 22, 1);
        Check.refused(land, "grant too near", UnsupportedOperationException.class, () -> land.grant(1, 0));
        Check.due("near to his own", 1, () -> land.grant(0, 0));
        borne(land, "1", 0);
        Check.typed(land, 3, 22, 1);
        Check.due("near in another land", 2, () -> land.grant(1, 1));
        land.death(1);
        Check.typed(land, 5);
        Check.refused(land, "grant to the dead", UnsupportedOperationException.class, () -> land.grant(1, 1));
        Check.typed(land, 3, 22, 1);
        Check.due("near to what nobody bears", 3, () -> land.grant(0, 1));
    }

    private static void assumptions() {
        Blazonry land = new Blazonry();
        man(land, -1);
        int son = man(land, 0);
        int other = man(land, -1);
        Check.refused(land, "assume nothing", UnsupportedOperationException.class, () -> land.assume(0, 0));
        Check.typed(land, 3, 22, 1);
        Check.refused(land, "assume by -1", IndexOutOfBoundsException.class, () -> land.assume(-1, 0));
        Check.refused(land, "assume by 3", IndexOutOfBoundsException.class, () -> land.assume(3, 9));
        Check.refused(land, "assume in 4", IllegalArgumentException.class, () -> land.assume(0, 4));
        Check.refused(land, "assume in -1", IllegalArgumentException.class, () -> land.assume(0, -1));
        land.pass(3);
        Check.due("assume", 0, () -> land.assume(0, 2));
        Check.due("the row is empty", 0, land::erase);
        Check.due("cameBy", 'u', () -> land.cameBy(0));
        Check.due("yearOf", 3, () -> land.yearOf(0));
        Check.typed(land, 3, 22, 1);
        Check.refused(land, "a second time", UnsupportedOperationException.class, () -> land.assume(0, 2));
        Check.refused(land, "who bears his father's", UnsupportedOperationException.class, () -> land.assume(son, 2));
        Check.due("the same by another one", 1, () -> land.assume(other, 2));
        Check.typed(land, 4);
        Check.due("in another land", 2, () -> land.assume(0, 1));
        borne(land, "2", 0);
        borne(land, "2 1", son);
        Check.typed(land, 4);
        Check.due("in the first land again", 3, () -> land.assume(0, 2));
        land.death(other);
        Check.typed(land, 4);
        Check.refused(land, "assume by the dead", UnsupportedOperationException.class, () -> land.assume(other, 0));
        land.type(4);
        Check.refused(land, "assume a wrong row", UnsupportedOperationException.class, () -> land.assume(0, 0));
    }

    private static void fullRoll() {
        Blazonry land = new Blazonry();
        man(land, -1);
        man(land, -1);
        for (int a = 0; a < 24; a++) {
            int number = a;
            Check.typed(land, 1 + a % 8);
            Check.due("arms", number, () -> number % 2 == 0 ? land.grant(0, 0) : land.assume(0, number / 2 % 2 + 1));
        }
        Check.typed(land, 1, 22, 3);
        Check.refused(land, "a 25th grant", IllegalStateException.class, () -> land.grant(0, 0));
        Check.refused(land, "a 25th assumption", IllegalStateException.class, () -> land.assume(1, 0));
        Check.typed(land, 8);
        Check.refused(land, "in conflict", UnsupportedOperationException.class, () -> land.grant(1, 2));
        land.erase();
        Check.refused(land, "a wrong row", UnsupportedOperationException.class, () -> land.grant(1, 2));
        Check.refused(land, "no land", IllegalArgumentException.class, () -> land.assume(1, 5));
        Check.due("arms", 24, land::arms);
    }

    private static void sonsAndHeirs() {
        Blazonry land = new Blazonry();
        int father = man(land, -1);
        int eldest = man(land, father);
        int daughter = woman(land, father);
        int second = man(land, father);
        int third = man(land, father);
        borne(land, NONE, father);
        borne(land, NONE, eldest);
        grant(land, father, 0, 3, 22, 1);
        borne(land, "0", father);
        borne(land, "0 1", eldest);
        borne(land, "0", daughter);
        borne(land, "0 2", second);
        borne(land, "0 3", third);
        int grandson = man(land, second);
        int granddaughter = woman(land, second);
        borne(land, "0 2 1", grandson);
        borne(land, "0 2", granddaughter);
        Check.due("bearers", 7, () -> land.bearers(0));
        land.death(father);
        borne(land, "0", eldest);
        borne(land, "0 2", second);
        borne(land, "0", daughter);
        land.death(eldest);
        borne(land, "0", second);
        borne(land, "0 1", grandson);
        borne(land, "0 3", third);
        Check.due("bearers", 5, () -> land.bearers(0));
        land.death(second);
        borne(land, "0", grandson);
        borne(land, "0 3", third);
        land.death(grandson);
        borne(land, "0", third);
        Check.due("not extinct", false, () -> land.isExtinct(0));
        land.death(third);
        borne(land, "0", third);
        borne(land, "0", father);
        borne(land, "0", eldest);
    }

    private static void latestArms() {
        Blazonry land = new Blazonry();
        int father = man(land, -1);
        int son = man(land, father);
        grant(land, father, 0, 3, 22, 1);
        grant(land, father, 1, 4, 22, 1);
        borne(land, "1", father);
        borne(land, "1 1", son);
        grant(land, son, 0, 5, 24, 2);
        borne(land, "2", son);
        land.death(father);
        borne(land, "2", son);
        Check.due("nobody bears these", 0, () -> land.bearers(0));
        Check.due("nor those, now", 0, () -> land.bearers(1));
        Check.due("extinct", true, () -> land.isExtinct(1));
        Check.due("not these", false, () -> land.isExtinct(2));
    }

    private static void deadBearers() {
        Blazonry land = new Blazonry();
        int father = man(land, -1);
        man(land, father);
        int second = man(land, father);
        int son = man(land, second);
        grant(land, father, 0, 3, 22, 1);
        land.death(second);
        borne(land, "0 2", second);
        borne(land, "0 2", son);
        land.death(1);
        land.death(father);
        borne(land, "0 2", second);
        borne(land, "0 2", son);
        int after = man(land, second);
        borne(land, "0 2 2", after);
        Blazonry none = new Blazonry();
        man(none, -1);
        none.death(0);
        borne(none, NONE, 0);
    }

    private static void oneHeiress() {
        Blazonry land = new Blazonry();
        int father = man(land, -1);
        int daughter = woman(land, father);
        int her = woman(land, -1);
        int son = land.birth(-1, daughter, true);
        grant(land, father, 0, 3, 22, 1);
        int older = man(land, -1);
        int cousin = woman(land, older);
        grant(land, older, 1, 4, 22, 1);
        grant(land, older, 1, 4, 23, 1);
        land.death(older);
        borne(land, "2", cousin);
        land.death(father);
        borne(land, "0", daughter);
        borne(land, NONE, her);
        borne(land, NONE, son);
        Check.due("no abeyance", false, () -> land.isInAbeyance(0));
        Check.due("nobody is called", "throws.UnsupportedOperationException", () -> land.call(0, daughter));
        land.death(daughter);
        Check.due("extinct", true, () -> land.isExtinct(0));
        borne(land, "0", daughter);
    }

    private static void abeyance() {
        Blazonry land = new Blazonry();
        int father = man(land, -1);
        int one = woman(land, father);
        int two = woman(land, father);
        int three = woman(land, father);
        int other = woman(land, -1);
        int son = man(land, father);
        grant(land, father, 0, 3, 22, 1);
        Check.due("father lives", false, () -> land.isInAbeyance(0));
        int grandson = man(land, son);
        Check.due("no abeyance then", 0, () -> land.death(son));
        Check.refused(land, "no call yet", UnsupportedOperationException.class, () -> land.call(0, one));
        Check.due("no abeyance, as one of his line lives", 0, () -> land.death(father));
        Check.due("none", false, () -> land.isInAbeyance(0));
        borne(land, "0 1", grandson);
        Check.due("an abeyance then", 1, () -> land.death(grandson));
        Check.due("abeyance", true, () -> land.isInAbeyance(0));
        Check.due("not extinct", false, () -> land.isExtinct(0));
        borne(land, "0", one);
        Check.refused(land, "call another", UnsupportedOperationException.class, () -> land.call(0, other));
        Check.refused(land, "call a man", UnsupportedOperationException.class, () -> land.call(0, son));
        Check.refused(land, "call of no arms", IndexOutOfBoundsException.class, () -> land.call(1, one));
        Check.refused(land, "call of nobody", IndexOutOfBoundsException.class, () -> land.call(0, 7));
        Check.due("call", 3, () -> land.call(0, two));
        Check.due("no abeyance", false, () -> land.isInAbeyance(0));
        Check.refused(land, "call again", UnsupportedOperationException.class, () -> land.call(0, one));
        Check.due("her death", 1, () -> land.death(two));
        Check.due("abeyance again", true, () -> land.isInAbeyance(0));
        Check.refused(land, "call the dead", UnsupportedOperationException.class, () -> land.call(0, two));
        Check.due("call", 2, () -> land.call(0, three));
        Check.due("no abeyance", false, () -> land.isInAbeyance(0));
        Check.due("death of the one not called", 0, () -> land.death(one));
        Check.due("still hers", false, () -> land.isExtinct(0));
        Check.due("death of the last", 0, () -> land.death(three));
        Check.due("extinct", true, () -> land.isExtinct(0));
        Check.due("no abeyance", false, () -> land.isInAbeyance(0));
    }

    /** Of the male line those with the fewest differences count, and of these the one who died last. */
    private static void fewestDifferences() {
        Blazonry land = new Blazonry();
        int father = man(land, -1);
        int first = man(land, father);
        int second = man(land, father);
        int aunt = woman(land, father);
        int hers = woman(land, first);
        int theirs = woman(land, second);
        grant(land, father, 0, 3, 22, 1);
        land.death(second);
        land.death(father);
        borne(land, "0", first);
        land.death(first);
        borne(land, "0", hers);
        Check.due("the daughter of the heir alone", false, () -> land.isInAbeyance(0));
        borne(land, "0", aunt);
        borne(land, "0 2", theirs);
        land.death(hers);
        Check.due("nobody is called", "throws.UnsupportedOperationException", () -> land.call(0, aunt));
        Check.due("bearers", 2, () -> land.bearers(0));

        lastOfAsMany(true);
        lastOfAsMany(false);
    }

    /** Two sons die with one difference each; the first bearer bears other arms as he dies. */
    private static void lastOfAsMany(boolean isYoungerLast) {
        Blazonry land = new Blazonry();
        int grandfather = man(land, -1);
        int elder = man(land, grandfather);
        int younger = man(land, grandfather);
        int daughter = woman(land, younger);
        int cousin = woman(land, elder);
        grant(land, grandfather, 0, 3, 22, 1);
        land.death(isYoungerLast ? elder : younger);
        land.death(isYoungerLast ? younger : elder);
        borne(land, "0 2", daughter);
        borne(land, "0 1", cousin);
        grant(land, grandfather, 1, 5);
        land.death(grandfather);
        borne(land, "0 2", younger);
        borne(land, isYoungerLast ? "0" : "0 2", daughter);
        borne(land, isYoungerLast ? "0 1" : "0", cousin);
    }

    private static void points() {
        Blazonry land = new Blazonry();
        man(land, -1);
        grant(land, 0, 0, 3, 24, 1);
        Check.due("chief", 1, () -> land.ofArms(0, 15, 4));
        Check.due("field", 3, () -> land.ofArms(0, 0, 5));
        land.augment(0, 5, 56, 2);
        Check.due("augmented", 2, () -> land.ofArms(0, 1, 3));
        Check.due("square", 5, () -> land.ofArms(0, 4, 4));
        Check.due("beside it", 3, () -> land.ofArms(0, 0, 5));
        int other = man(land, -1);
        int son = man(land, other);
        grant(land, other, 0, 3);
        Check.due("with a difference", 5, () -> land.ofShield(son, 1, 1));
        Check.due("without", 3, () -> land.ofArms(1, 1, 1));
    }

    private static void wrongInputs() {
        Blazonry land = new Blazonry();
        man(land, -1);
        man(land, 0);
        grant(land, 0, 0, 3);
        for (int arms : new int[] {-1, 1, 24, Integer.MAX_VALUE, Integer.MIN_VALUE}) {
            Check.refused(land, "cameBy", IndexOutOfBoundsException.class, () -> land.cameBy(arms));
            Check.refused(land, "yearOf", IndexOutOfBoundsException.class, () -> land.yearOf(arms));
            Check.refused(land, "isInAbeyance", IndexOutOfBoundsException.class, () -> land.isInAbeyance(arms));
            Check.refused(land, "call", IndexOutOfBoundsException.class, () -> land.call(arms, 0));
            Check.refused(land, "isExtinct", IndexOutOfBoundsException.class, () -> land.isExtinct(arms));
            Check.refused(land, "bearers", IndexOutOfBoundsException.class, () -> land.bearers(arms));
            Check.refused(land, "ofArms", IndexOutOfBoundsException.class, () -> land.ofArms(arms, 0, 0));
        }
        for (int person : new int[] {-1, 2, 40, Integer.MAX_VALUE, Integer.MIN_VALUE}) {
            Check.refused(land, "borne", IndexOutOfBoundsException.class, () -> land.borne(person));
            Check.refused(land, "differences", IndexOutOfBoundsException.class, () -> land.differences(person));
            Check.refused(land, "difference", IndexOutOfBoundsException.class, () -> land.difference(person, 0));
            Check.refused(land, "call", IndexOutOfBoundsException.class, () -> land.call(0, person));
        }
        for (int index : new int[] {-1, 1, 40, Integer.MAX_VALUE, Integer.MIN_VALUE}) {
            Check.refused(land, "no difference", NoSuchElementException.class, () -> land.difference(1, index));
        }
        for (int at : new int[] {-1, 16}) {
            Check.refused(land, "x", IndexOutOfBoundsException.class, () -> land.ofArms(0, at, 0));
            Check.refused(land, "y", IndexOutOfBoundsException.class, () -> land.ofArms(0, 0, at));
        }
        Check.due("the difference", 1, () -> land.difference(1, 0));
    }
}
