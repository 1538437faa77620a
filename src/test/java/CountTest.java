/** Promises 57 to 63: counts, sums, shares, means, and whether all is sound. */
public final class CountTest {
    public static void main(String[] args) {
        counts();
        sums();
        shares();
        means();
        sound();
        Check.end();
    }

    private static int man(Blazonry land, int father) {
        return land.birth(father, -1, true);
    }

    private static void counts() {
        Blazonry land = new Blazonry();
        Check.due("year", 0, land::year);
        land.pass(12);
        land.pass(30);
        Check.due("year", 42, land::year);
        Check.due("persons", 0, land::persons);
        man(land, -1);
        man(land, -1);
        Check.due("persons", 2, land::persons);
        land.death(0);
        Check.due("the dead, too", 2, land::persons);
        Check.due("arms", 0, land::arms);
        Check.typed(land, 3).assume(1, 0);
        Check.due("arms", 1, land::arms);
        land.visit(0);
        Check.due("void ones, too", 1, land::arms);
    }

    private static void sums() {
        Blazonry land = new Blazonry();
        Check.due("none", 0, land::allPoints);
        man(land, -1);
        Check.typed(land, 1).assume(0, 0);
        Check.due("one", 32896, land::allPoints);
        Check.typed(land, 3).grant(0, 1);
        Check.due("two", 32896 + 2 * 3 * 32896, land::allPoints);
        land.visit(0);
        Check.due("void ones, too", 7 * 32896, land::allPoints);
        Check.typed(land, 4).grant(0, 1);
        man(land, 0);
        Check.due("without differences", 19 * 32896, land::allPoints);
        // the points 1 to 5, 17 to 21 .. 65 to 69 of the tincture 1
        land.augment(1, 1, 56, 1);
        Check.due("with augmentations", 19 * 32896 - 2 * 2 * 5 * (3 + 19 + 35 + 51 + 67), land::allPoints);
        Check.typed(land, 8, 11, 2);
        Check.due("not the row", 19 * 32896 - 20 * 175, land::allPoints);
    }

    private static void shares() {
        Blazonry land = new Blazonry();
        Check.refused(land, "nobody", ArithmeticException.class, land::armigerShare);
        man(land, -1);
        Check.due("no armiger", 0.0f, land::armigerShare);
        man(land, 0);
        man(land, -1);
        Check.typed(land, 3).assume(0, 0);
        Check.due("two of three", 2.0f / 3.0f, land::armigerShare);
        land.death(0);
        Check.due("one of two", 0.5f, land::armigerShare);
        land.visit(0);
        Check.due("none of two", 0.0f, land::armigerShare);
        land.death(1);
        land.death(2);
        Check.refused(land, "nobody lives", ArithmeticException.class, land::armigerShare);
    }

    private static void means() {
        Blazonry land = new Blazonry();
        Check.refused(land, "no arms", ArithmeticException.class, land::meanWords);
        man(land, -1);
        Check.typed(land, 3).assume(0, 0);
        Check.due("one", 1.0, land::meanWords);
        Check.typed(land, 3, 24, 1).grant(0, 1);
        Check.due("two", 2.0, land::meanWords);
        Check.typed(land, 12, 3, 16, 31).grant(0, 2);
        Check.due("three, as they were told", 8.0 / 3.0, land::meanWords);
        land.visit(0);
        Check.due("void ones, too", 8.0 / 3.0, land::meanWords);
    }

    private static void sound() {
        Blazonry land = new Blazonry();
        Check.due("nothing", true, land::isSound);
        int father = man(land, -1);
        int mother = land.birth(-1, -1, false);
        Check.typed(land, 13, 10, 1, 16, 8, 26, 35, 36, 65, 52, 46, 32, 39, 55, 31, 28, 31, 22, 9, 33).assume(father, 0);
        Check.typed(land, 12, 9, 8, 16, 31, 24, 10, 3, 36, 69, 57, 45, 31).grant(mother, 1);
        land.birth(father, mother, true);
        land.augment(0, 3, 58, 1);
        Check.due("arms", true, land::isSound);
        land.death(mother);
        land.death(father);
        Check.due("quarters", true, land::isSound);
        Check.typed(land, 3, 22, 1);
        Check.due("fewest behind it", 3, land::fewest);
        land.visit(0);
        Check.due("void", true, land::isSound);
        Check.due("fewest behind it", 22, () -> land.fewestAt(1));
    }
}
