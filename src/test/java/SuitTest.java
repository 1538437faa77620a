import java.util.NoSuchElementException;

/** Promises 45 to 49: suits, judgments, precedents and appeals. */
public final class SuitTest {
    public static void main(String[] args) {
        elders();
        sixtyYears();
        precedents();
        classes();
        classBounds();
        appeals();
        appealOfTheElder();
        twoYears();
        fullDocket();
        wrongInputs();
        Check.end();
    }

    private static int man(Blazonry land, int father) {
        return land.birth(father, -1, true);
    }

    private static int assume(Blazonry land, int person, int of, int... words) {
        return Check.typed(land, words).assume(person, of);
    }

    /** Men with arms on a field of a tincture, each with so many bars of 3 points: 3 points away for each one. */
    private static Blazonry suitors(int... bars) {
        Blazonry land = new Blazonry();
        for (int p = 0; p < bars.length; p++) {
            man(land, -1);
            if (bars[p] == 0) {
                assume(land, p, 0, 3);
            } else {
                assume(land, p, 0, 3, 60 + bars[p], 54, 1);
            }
        }
        return land;
    }

    private static void elders() {
        Blazonry land = suitors(0, 1);
        Check.due("of one year the lower number", 0, () -> land.sue(1, 0));
        Check.due("the elder ones", 'e', () -> land.judged(0));
        Check.due("stands", true, () -> land.stands(0));
        Check.due("void", 'v', () -> land.cameBy(1));
        Check.due("as it was", 'u', () -> land.cameBy(0));
        Check.due("borne by nobody", "throws.NoSuchElementException", () -> land.borne(1));
        Check.due("extinct", true, () -> land.isExtinct(1));
        Check.due("nobody disclaimed", 0, land::disclaimed);
        Blazonry other = suitors(0);
        man(other, -1);
        other.pass(1);
        assume(other, 1, 0, 3);
        Check.due("the lower year", 0, () -> other.sue(0, 1));
        Check.due("void", 'v', () -> other.cameBy(1));
    }

    private static void sixtyYears() {
        Blazonry land = suitors(0);
        man(land, -1);
        land.pass(10);
        assume(land, 1, 0, 3);
        land.pass(59);
        Check.due("59 years", 0, () -> land.sue(0, 1));
        Check.due("the elder ones", 'e', () -> land.judged(0));
        Blazonry other = suitors(0);
        man(other, -1);
        other.pass(10);
        assume(other, 1, 0, 3);
        other.pass(60);
        Check.due("60 years", 0, () -> other.sue(0, 1));
        Check.due("the younger ones", 'y', () -> other.judged(0));
        Check.due("void", 'v', () -> other.cameBy(0));
        Check.due("as they were", 'u', () -> other.cameBy(1));
    }

    private static void precedents() {
        Blazonry land = suitors(0, 0, 0, 0, 0);
        man(land, -1);
        man(land, -1);
        assume(land, 5, 1, 3);
        assume(land, 6, 1, 3);
        land.sue(0, 1);
        land.pass(60);
        Check.due("by the precedent", 1, () -> land.sue(0, 2));
        Check.due("the elder ones", 'e', () -> land.judged(1));
        Check.due("the latest", 1, () -> land.precedent(0, 0));
        Check.due("none of another class", "throws.NoSuchElementException", () -> land.precedent(0, 1));
        Check.due("none of another land", "throws.NoSuchElementException", () -> land.precedent(1, 0));
        Check.due("in another land", 2, () -> land.sue(5, 6));
        Check.due("the younger ones", 'y', () -> land.judged(2));
        Check.due("of that land", 2, () -> land.precedent(1, 0));
        Check.due("still", 1, () -> land.precedent(0, 0));
    }

    private static void classes() {
        // 0, 3, 6 .. 24 points away from the first ones
        Blazonry land = suitors(0, 2, 3, 5, 6, 7, 8);
        Check.due("24 are not near", "throws.UnsupportedOperationException", () -> land.sue(0, 6));
        Check.due("6", 0, () -> land.sue(0, 1));
        Check.due("9", 1, () -> land.sue(0, 2));
        Check.due("15", 2, () -> land.sue(0, 3));
        Check.due("18", 3, () -> land.sue(0, 4));
        Check.due("21", 4, () -> land.sue(0, 5));
        Check.due("class 0", 0, () -> land.precedent(0, 0));
        Check.due("class 1", 2, () -> land.precedent(0, 1));
        Check.due("class 2", 4, () -> land.precedent(0, 2));
        Check.refused(land, "24", UnsupportedOperationException.class, () -> land.sue(0, 6));
    }

    /** Those that are 7 and 8 points away are of two classes, so are those 15 and 16 points away. */
    private static void classBounds() {
        Blazonry land = new Blazonry();
        for (int p = 0; p < 4; p++) {
            man(land, -1);
        }
        assume(land, 0, 0, 3);
        assume(land, 1, 0, 3, 61, 51, 1);
        assume(land, 2, 0, 3, 61, 55, 1);
        assume(land, 3, 0, 3, 62, 55, 1);
        land.sue(0, 1);
        land.pass(60);
        Check.due("8 points away", 1, () -> land.sue(0, 2));
        Check.due("no precedent of its class", 'y', () -> land.judged(1));
        Blazonry other = new Blazonry();
        for (int p = 0; p < 3; p++) {
            man(other, -1);
        }
        assume(other, 0, 0, 3);
        assume(other, 1, 0, 3, 65, 54, 1);
        assume(other, 2, 0, 3, 62, 55, 1);
        other.sue(0, 1);
        other.pass(60);
        Check.due("16 points away", 1, () -> other.sue(0, 2));
        Check.due("no precedent of its class", 'y', () -> other.judged(1));
        Check.due("class 1", 0, () -> other.precedent(0, 1));
        Check.due("class 2", 1, () -> other.precedent(0, 2));
    }

    private static void appeals() {
        Blazonry land = suitors(0, 4, 4, 0, 4);
        land.sue(0, 1);
        land.pass(1);
        Check.due("appeal", 1, () -> land.appeal(0));
        Check.due("stands no more", false, () -> land.stands(0));
        Check.due("stands instead", true, () -> land.stands(1));
        Check.due("old letter", 'e', () -> land.judged(0));
        Check.due("other letter", 'y', () -> land.judged(1));
        Check.due("the loser is as before", 'u', () -> land.cameBy(1));
        Check.due("and bears", 1, () -> land.borne(1));
        Check.due("the winner is void", 'v', () -> land.cameBy(0));
        Check.due("precedent", 1, () -> land.precedent(0, 1));
        Check.refused(land, "no second appeal", UnsupportedOperationException.class, () -> land.appeal(1));
        Check.refused(land, "none from the old one", UnsupportedOperationException.class, () -> land.appeal(0));
        Check.due("suit by that precedent", 2, () -> land.sue(3, 4));
        Check.due("the younger ones", 'y', () -> land.judged(2));
        Check.due("void", 'v', () -> land.cameBy(3));
    }

    private static void appealOfTheElder() {
        Blazonry land = new Blazonry();
        man(land, -1);
        man(land, -1);
        Check.typed(land, 3).grant(0, 0);
        assume(land, 1, 0, 3, 64, 54, 1);
        land.pass(60);
        land.sue(0, 1);
        Check.due("the younger ones", 'y', () -> land.judged(0));
        Check.due("appeal", 1, () -> land.appeal(0));
        Check.due("the elder ones", 'e', () -> land.judged(1));
        Check.due("granted, as before", 'g', () -> land.cameBy(0));
        Check.due("void", 'v', () -> land.cameBy(1));
        Check.refused(land, "augment void ones", UnsupportedOperationException.class, () -> land.augment(1, 1, 51, 1));
        Blazonry near = suitors(0, 3);
        near.sue(0, 1);
        Check.refused(near, "9 points are too near", UnsupportedOperationException.class, () -> near.appeal(0));
        Blazonry then = suitors(0, 4);
        then.sue(0, 1);
        then.augment(0, 3, 56, 1);
        Check.due("the distance is that of then", 1, () -> then.appeal(0));
        Check.due("and the class", 1, () -> then.precedent(0, 1));
    }

    private static void twoYears() {
        Blazonry land = suitors(0, 4);
        land.sue(0, 1);
        land.pass(2);
        Check.refused(land, "2 years", UnsupportedOperationException.class, () -> land.appeal(0));
        Blazonry other = suitors(0, 4, 4);
        other.pass(9);
        other.sue(0, 1);
        other.pass(1);
        Check.due("1 year", 1, () -> other.appeal(0));
        other.pass(9);
        Check.due("of that year", 1, () -> other.precedent(0, 1));
    }

    private static void fullDocket() {
        Blazonry land = new Blazonry();
        for (int p = 0; p < 24; p++) {
            man(land, -1);
            if (p % 2 == 0) {
                assume(land, p, 0, 3);
            } else {
                assume(land, p, 0, 3, 64, 54, 1);
            }
        }
        for (int j = 0; j < 20; j++) {
            int number = j;
            Check.due("judgment", number, () -> land.sue(0, number + 1));
        }
        Check.refused(land, "a 21st", IllegalStateException.class, () -> land.sue(0, 21));
        Check.refused(land, "an appeal", IllegalStateException.class, () -> land.appeal(0));
        Check.refused(land, "no appeal", UnsupportedOperationException.class, () -> land.appeal(1));
        Check.refused(land, "no suit", UnsupportedOperationException.class, () -> land.sue(0, 20));
        Check.refused(land, "no 21st", IndexOutOfBoundsException.class, () -> land.judged(20));
        Check.due("the 20th", 'e', () -> land.judged(19));
    }

    private static void wrongInputs() {
        Blazonry land = suitors(0, 4, 4);
        int son = man(land, 0);
        int bare = man(land, -1);
        int stranger = man(land, -1);
        assume(land, stranger, 1, 3);
        land.sue(0, 1);
        for (int person : new int[] {-1, 6, 40}) {
            Check.refused(land, "sue", IndexOutOfBoundsException.class, () -> land.sue(person, 0));
            Check.refused(land, "sue", IndexOutOfBoundsException.class, () -> land.sue(0, person));
            Check.refused(land, "judged", IndexOutOfBoundsException.class, () -> land.judged(person));
            Check.refused(land, "stands", IndexOutOfBoundsException.class, () -> land.stands(person));
            Check.refused(land, "appeal", IndexOutOfBoundsException.class, () -> land.appeal(person));
        }
        Check.refused(land, "oneself", UnsupportedOperationException.class, () -> land.sue(0, 0));
        Check.refused(land, "the same arms", UnsupportedOperationException.class, () -> land.sue(0, son));
        Check.refused(land, "no arms", UnsupportedOperationException.class, () -> land.sue(0, bare));
        Check.refused(land, "void arms", UnsupportedOperationException.class, () -> land.sue(0, 1));
        Check.refused(land, "no arms", UnsupportedOperationException.class, () -> land.sue(bare, 0));
        Check.refused(land, "two lands", UnsupportedOperationException.class, () -> land.sue(0, stranger));
        land.death(2);
        Check.refused(land, "the dead", UnsupportedOperationException.class, () -> land.sue(0, 2));
        Check.refused(land, "by the dead", UnsupportedOperationException.class, () -> land.sue(2, 0));
        for (int of : new int[] {-1, 4}) {
            Check.refused(land, "precedent", IllegalArgumentException.class, () -> land.precedent(of, 0));
        }
        for (int step : new int[] {-1, 3}) {
            Check.refused(land, "precedent", IllegalArgumentException.class, () -> land.precedent(0, step));
        }
        Check.refused(land, "no precedent", NoSuchElementException.class, () -> land.precedent(0, 2));
        Check.due("precedent", 0, () -> land.precedent(0, 1));
    }
}
