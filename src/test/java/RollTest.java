import java.util.NoSuchElementException;

/** Promises 39 to 44: distances, what is nearest, words, conflicts and visitations. */
public final class RollTest {
    public static void main(String[] args) {
        distances();
        nearest();
        words();
        conflicts();
        nearness();
        generations();
        longBorne();
        nearGranted();
        risingNumbers();
        wrongInputs();
        Check.end();
    }

    private static int man(Blazonry land, int father) {
        return land.birth(father, -1, true);
    }

    private static int grant(Blazonry land, int person, int of, int... words) {
        return Check.typed(land, words).grant(person, of);
    }

    private static int assume(Blazonry land, int person, int of, int... words) {
        return Check.typed(land, words).assume(person, of);
    }

    private static void distances() {
        Blazonry land = new Blazonry();
        man(land, -1);
        grant(land, 0, 0, 3);
        grant(land, 0, 1, 3, 24, 1);
        grant(land, 0, 2, 3, 61, 51, 8);
        Check.due("to itself", 0, () -> land.distance(1, 1));
        Check.due("chief", 80, () -> land.distance(0, 1));
        Check.due("the other way", 80, () -> land.distance(1, 0));
        Check.due("charge", 5, () -> land.distance(0, 2));
        Check.due("both", 80, () -> land.distance(1, 2));
        land.augment(0, 3, 56, 3);
        Check.due("augmented as it was", 5, () -> land.distance(0, 2));
        land.augment(0, 1, 56, 5);
        Check.due("augmented", 25, () -> land.distance(0, 2));
        man(land, 0);
        Check.due("without differences", 25, () -> land.distance(2, 0));
    }

    private static void nearest() {
        Blazonry land = new Blazonry();
        int one = man(land, -1);
        int other = man(land, -1);
        Check.typed(land, 3);
        Check.refused(land, "nearest of none", NoSuchElementException.class, land::nearest);
        assume(land, one, 0, 3, 22, 1);
        assume(land, other, 1, 3, 22, 1);
        grant(land, one, 2, 4, 22, 1);
        Check.typed(land, 3, 22, 2);
        Check.due("the lowest of two", 0, land::nearest);
        Check.typed(land, 4);
        Check.due("the third", 2, land::nearest);
        Check.due("void", 0, () -> land.visit(0));
        Check.typed(land, 3, 22, 2);
        Check.due("the other one", 1, land::nearest);
        land.visit(1);
        Check.due("what is left", 2, land::nearest);
        land.augment(2, 1, 56, 1);
        grant(land, one, 3, 4, 22, 1);
        Check.typed(land, 4, 22, 1);
        Check.due("a row has no augmentation", 3, land::nearest);
        land.type(1);
        Check.refused(land, "nearest to a wrong row", UnsupportedOperationException.class, land::nearest);
        Blazonry none = new Blazonry();
        Check.refused(none, "nothing to nothing", UnsupportedOperationException.class, none::nearest);
        man(none, -1);
        assume(none, 0, 0, 3);
        none.visit(0);
        Check.typed(none, 3);
        Check.refused(none, "void ones alone", NoSuchElementException.class, none::nearest);
    }

    private static void words() {
        Blazonry land = new Blazonry();
        man(land, -1);
        assume(land, 0, 0, 3, 22, 32, 36, 61, 51, 32);
        grant(land, 0, 1, 3, 39, 51, 31);
        grant(land, 0, 2, 15, 1, 16, 3);
        land.augment(2, 7, 58, 6);
        Check.due("tincture", 3, () -> land.withWord(3));
        Check.due("reaching back, twice in one", 1, () -> land.withWord(32));
        Check.due("charge", 2, () -> land.withWord(51));
        Check.due("augmentations are no words", 0, () -> land.withWord(58));
        Check.due("1 is not meant where it stands for none", 1, () -> land.withWord(1));
        Check.due("none", 0, () -> land.withWord(0));
        Check.due("no word", 0, () -> land.withWord(-1));
        Check.due("no word at all", 0, () -> land.withWord(Integer.MAX_VALUE));
        Check.typed(land, 2);
        Check.due("not the row", 0, () -> land.withWord(2));
        land.visit(0);
        Check.due("void", 'v', () -> land.cameBy(0));
        Check.due("void ones too", 1, () -> land.withWord(32));
    }

    private static void conflicts() {
        Blazonry land = new Blazonry();
        int one = man(land, -1);
        int son = man(land, one);
        int other = man(land, -1);
        int last = man(land, -1);
        grant(land, one, 0, 3);
        assume(land, other, 0, 3, 61, 51, 1);
        assume(land, last, 1, 3);
        Check.typed(land, 3);
        Check.due("two", 2, () -> land.conflicts(last, 0));
        Check.due("in another land", 0, () -> land.conflicts(last, 2));
        Check.due("not with one's own", 0, () -> land.conflicts(last, 1));
        Check.due("his son bears them, too", 2, () -> land.conflicts(one, 0));
        Check.due("son", 2, () -> land.conflicts(son, 0));
        land.death(son);
        Check.due("nobody else", 1, () -> land.conflicts(one, 0));
        land.death(other);
        Check.due("the dead do not count", 0, () -> land.conflicts(one, 0));
        Check.due("for another one", 1, () -> land.conflicts(last, 0));
        land.augment(0, 1, 56, 1);
        Check.due("augmented", 0, () -> land.conflicts(last, 0));
        Check.due("grant", 3, () -> land.grant(last, 0));
    }

    /** Near is what is less than 24 points away. */
    private static void nearness() {
        Blazonry land = new Blazonry();
        man(land, -1);
        man(land, -1);
        grant(land, 0, 0, 3);
        Check.typed(land, 3, 62, 56, 1, 61, 51, 1);
        Check.due("23", 1, () -> land.conflicts(1, 0));
        Check.typed(land, 3, 68, 54, 1);
        Check.due("24", 0, () -> land.conflicts(1, 0));
        Check.typed(land, 3, 67, 54, 1);
        Check.due("21", 1, () -> land.conflicts(1, 0));
    }

    private static void generations() {
        Blazonry land = new Blazonry();
        int first = man(land, -1);
        int son = man(land, first);
        land.birth(first, -1, false);
        assume(land, first, 0, 3);
        land.birth(son, -1, false);
        Check.due("no third man", 0, () -> land.visit(0));
        Check.due("void", 'v', () -> land.cameBy(0));
        Check.due("borne by nobody", "throws.NoSuchElementException", () -> land.borne(son));
        Check.due("disclaimed", 1, land::disclaimed);
        Check.due("extinct", true, () -> land.isExtinct(0));
        assume(land, first, 0, 4);
        int grandson = man(land, son);
        Check.due("not in another land", 0, () -> land.visit(1));
        Check.due("still assumed", 'u', () -> land.cameBy(1));
        land.pass(5);
        Check.due("three", 1, () -> land.visit(0));
        Check.due("granted", 'g', () -> land.cameBy(1));
        Check.due("of the year in which they were assumed", 0, () -> land.yearOf(1));
        Check.due("borne", 1, () -> land.borne(grandson));
        Check.due("disclaimed", 1, land::disclaimed);
        Check.due("void ones are done with", 0, () -> land.visit(0));
        assume(land, first, 1, 5);
        land.death(first);
        land.death(son);
        land.death(grandson);
        Check.due("or bore", 1, () -> land.visit(1));
        whoBearsOthers(true);
        whoBearsOthers(false);
        Blazonry fourth = new Blazonry();
        int mother = fourth.birth(-1, -1, false);
        assume(fourth, mother, 0, 3);
        man(fourth, man(fourth, -1));
        Check.due("no sons of hers", 0, () -> fourth.visit(0));
    }

    private static void whoBearsOthers(boolean isThird) {
        Blazonry land = new Blazonry();
        int first = man(land, -1);
        int grandson = man(land, man(land, first));
        assume(land, first, 0, 3);
        grant(land, isThird ? grandson : first, 1, 5);
        Check.due("one bears others", 0, () -> land.visit(0));
    }

    private static void longBorne() {
        Blazonry land = new Blazonry();
        man(land, -1);
        man(land, -1);
        assume(land, 0, 0, 3);
        land.pass(1);
        assume(land, 1, 0, 4);
        land.pass(59);
        Check.due("60 and 59 years", 1, () -> land.visit(0));
        Check.due("60", 'g', () -> land.cameBy(0));
        Check.due("59", 'v', () -> land.cameBy(1));
    }

    private static void nearGranted() {
        Blazonry land = new Blazonry();
        for (int p = 0; p < 4; p++) {
            man(land, -1);
        }
        assume(land, 0, 0, 3);
        assume(land, 1, 0, 3, 61, 51, 1);
        assume(land, 2, 0, 3, 24, 1);
        assume(land, 3, 1, 3, 24, 1);
        land.pass(60);
        Check.due("those granted ahead count", 2, () -> land.visit(0));
        Check.due("first", 'g', () -> land.cameBy(0));
        Check.due("near to it", 'v', () -> land.cameBy(1));
        Check.due("far enough", 'g', () -> land.cameBy(2));
        Check.due("in another land", 'u', () -> land.cameBy(3));
        Check.due("disclaimed", 1, land::disclaimed);
        Blazonry far = new Blazonry();
        man(far, -1);
        man(far, -1);
        assume(far, 0, 0, 3);
        assume(far, 1, 0, 3, 68, 54, 1);
        far.pass(60);
        Check.due("24 points are not near", 2, () -> far.visit(0));
        Blazonry borneByNobody = new Blazonry();
        man(borneByNobody, -1);
        man(borneByNobody, -1);
        grant(borneByNobody, 0, 0, 3);
        assume(borneByNobody, 1, 0, 3);
        borneByNobody.death(0);
        borneByNobody.pass(60);
        Check.due("granted ones whose bearer is dead count", 0, () -> borneByNobody.visit(0));
        Blazonry sued = new Blazonry();
        man(sued, -1);
        man(sued, -1);
        grant(sued, 0, 0, 3);
        assume(sued, 1, 0, 3);
        sued.pass(60);
        sued.sue(0, 1);
        Check.due("the younger ones won", 'v', () -> sued.cameBy(0));
        Check.due("void ones do not count", 1, () -> sued.visit(0));
    }

    private static void risingNumbers() {
        Blazonry land = new Blazonry();
        int father = man(land, -1);
        int son = man(land, father);
        int grandson = man(land, son);
        assume(land, son, 0, 5);
        assume(land, father, 0, 3);
        Check.due("borne", 0, () -> land.borne(grandson));
        Check.due("he bears the father's as his own are void", 1, () -> land.visit(0));
        Check.due("his own", 'v', () -> land.cameBy(0));
        Check.due("the father's", 'g', () -> land.cameBy(1));
        Check.due("borne", 1, () -> land.borne(grandson));
        Check.due("differences", 2, () -> land.differences(grandson));
    }

    private static void wrongInputs() {
        Blazonry land = new Blazonry();
        man(land, -1);
        grant(land, 0, 0, 3);
        Check.typed(land, 4);
        for (int number : new int[] {-1, 1, 40, Integer.MIN_VALUE, Integer.MAX_VALUE}) {
            Check.refused(land, "distance", IndexOutOfBoundsException.class, () -> land.distance(number, 0));
            Check.refused(land, "distance", IndexOutOfBoundsException.class, () -> land.distance(0, number));
            Check.refused(land, "conflicts", IndexOutOfBoundsException.class, () -> land.conflicts(number, 9));
        }
        for (int of : new int[] {-1, 4}) {
            Check.refused(land, "visit", IllegalArgumentException.class, () -> land.visit(of));
            Check.refused(land, "conflicts", IllegalArgumentException.class, () -> land.conflicts(0, of));
        }
        land.type(4);
        Check.refused(land, "conflicts of a wrong row", UnsupportedOperationException.class, () -> land.conflicts(0, 0));
        Check.refused(land, "no land first", IllegalArgumentException.class, () -> land.conflicts(0, 4));
    }
}
