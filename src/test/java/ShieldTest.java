import java.util.NoSuchElementException;

/** Promises 34 to 38: shields and quarters. */
public final class ShieldTest {
    public static void main(String[] args) {
        labels();
        bordures();
        turnedTinctures();
        noCustom();
        augmentedDifferences();
        twoQuarters();
        threeAndMoreQuarters();
        differencedQuarters();
        eightQuarters();
        deadMothers();
        wives();
        abatements();
        wrongInputs();
        Check.end();
    }

    private static int man(Blazonry land, int father) {
        return land.birth(father, -1, true);
    }

    private static int woman(Blazonry land, int father) {
        return land.birth(father, -1, false);
    }

    private static int grant(Blazonry land, int person, int of, int... words) {
        return Check.typed(land, words).grant(person, of);
    }

    private static void row(Blazonry land, int person, int y, String want) {
        StringBuilder got = new StringBuilder();
        for (int x = 0; x < 16; x++) {
            got.append(land.ofShield(person, x, y));
        }
        Check.same("row " + y + " of the shield of " + person, want, got.toString());
    }

    private static void quarters(Blazonry land, int person, String want) {
        StringBuilder got = new StringBuilder();
        for (int q = 0; q < land.quarters(person); q++) {
            got.append(land.quarter(person, q)).append(" by ").append(land.quarterBy(person, q)).append(", ");
        }
        Check.same("quarters of " + person, want, got.toString());
    }

    private static void labels() {
        Blazonry land = new Blazonry();
        man(land, -1);
        for (int i = 0; i < 10; i++) {
            man(land, 0);
        }
        int grandson = man(land, 2);
        grant(land, 0, 0, 3);
        row(land, 0, 0, "3333333333333333");
        row(land, 1, 0, "3533333333333333");
        row(land, 2, 0, "5353333333333333");
        row(land, 6, 1, "5553333333333333");
        row(land, 7, 0, "5533333333333333");
        row(land, 8, 0, "3553333333333333");
        row(land, 9, 0, "3553333333333333");
        row(land, 10, 2, "5333333333333333");
        row(land, grandson, 0, "5353353333333333");
        Check.due("points of a label", 5, () -> land.shield(1, 2, 5));
        Check.due("points of two labels", 10, () -> land.shield(grandson, 2, 5));
        Check.due("the lozenge has none", 0, () -> land.shield(1, 1, 5));
        Blazonry blue = new Blazonry();
        man(blue, -1);
        man(blue, 0);
        grant(blue, 0, 0, 5);
        row(blue, 1, 1, "2225555555555555");
        // a label finds the first block of the upper rows that is free, or none
        Blazonry full = new Blazonry();
        man(full, -1);
        man(full, 0);
        grant(full, 0, 0, 3, 24, 1);
        row(full, 1, 8, "3333333333333333");
        Check.due("no label", 0, () -> full.shield(1, 2, 5));
        Blazonry five = new Blazonry();
        man(five, -1);
        man(five, 0);
        grant(five, 0, 0, 3, 61, 51, 1, 22, 1, 24, 1, 61, 51, 1);
        Check.due("no label behind four groups", 0, () -> five.shield(1, 2, 5));
    }

    private static void bordures() {
        Blazonry land = new Blazonry();
        man(land, -1);
        for (int i = 0; i < 7; i++) {
            man(land, 0);
        }
        int grandson = man(land, 3);
        grant(land, 0, 1, 8, 61, 51, 1);
        for (int son = 1; son <= 7; son++) {
            int of = son;
            Check.due("bordure", 112, () -> land.shield(of, 2, Math.min(2 + of, 7)));
        }
        row(land, 1, 2, "3388888888888833");
        row(land, grandson, 0, "3333333333333333");
        row(land, 3, 0, "5555555555555555");
    }

    private static void turnedTinctures() {
        Blazonry land = new Blazonry();
        man(land, -1);
        man(land, 0);
        man(land, 0);
        int grandson = man(land, 2);
        grant(land, 0, 2, 12, 7, 16, 31, 22, 32, 61, 51, 35);
        row(land, 0, 1, "7777777777777777");
        row(land, 1, 5, "3333333333333333");
        row(land, 1, 15, "7777777777777777");
        row(land, 1, 7, "7777777777777777");
        row(land, 1, 1, "7773333333333333");
        row(land, 2, 5, "4444444444444444");
        row(land, grandson, 5, "5555555555555555");
        Blazonry metal = new Blazonry();
        man(metal, -1);
        man(metal, 0);
        man(metal, 0);
        grant(metal, 0, 2, 1, 22, 32);
        row(metal, 1, 0, "2222222222222222");
        row(metal, 1, 6, "1111111111111111");
        row(metal, 2, 0, "1111111111111111");
        Blazonry fur = new Blazonry();
        man(fur, -1);
        man(fur, 0);
        grant(fur, 0, 2, 8, 22, 32);
        row(fur, 1, 0, "8888888888888888");
        Check.due("arms themselves stay", 1, () -> metal.ofArms(0, 0, 0));
    }

    private static void noCustom() {
        Blazonry land = new Blazonry();
        man(land, -1);
        man(land, 0);
        grant(land, 0, 3, 3, 22, 1);
        Check.due("no difference is drawn", 192, () -> land.shield(1, 2, 3));
        Check.due("though it is borne", 1, () -> land.differences(1));
    }

    private static void augmentedDifferences() {
        Blazonry land = new Blazonry();
        man(land, -1);
        man(land, 0);
        grant(land, 0, 1, 3);
        land.augment(0, 1, 51, 7);
        row(land, 1, 0, "1111133333333333");
        row(land, 1, 1, "1171133333333333");
        row(land, 1, 4, "1111133333333333");
        row(land, 1, 5, "3333333333333333");
    }

    /** A man and a woman with arms; the woman is an heiress, their son has both quarters. */
    private static Blazonry family() {
        Blazonry land = new Blazonry();
        int father = man(land, -1);
        int grandfather = man(land, -1);
        int mother = woman(land, grandfather);
        land.birth(father, mother, true);
        grant(land, father, 0, 3);
        grant(land, grandfather, 0, 12, 1, 16, 4);
        return land;
    }

    private static void twoQuarters() {
        Blazonry land = family();
        quarters(land, 3, "0 by 3, ");
        land.death(1);
        quarters(land, 2, "1 by 2, ");
        quarters(land, 3, "0 by 3, 1 by 2, ");
        row(land, 3, 0, "3333333311111111");
        row(land, 3, 3, "3333333311111111");
        row(land, 3, 4, "3333333344444444");
        row(land, 3, 8, "1111111133333333");
        row(land, 3, 12, "4444444433333333");
        Check.due("points", 64, () -> land.shield(3, 2, 4));
        int later = man(land, 1);
        Check.due("mother no heiress now", false, () -> land.isHeiress(2));
        quarters(land, 3, "0 by 3, ");
        land.death(later);
        quarters(land, 3, "0 by 3, 1 by 2, ");
        // each arms once: his sister's children have them by their mother
        int daughter = land.birth(0, 2, false);
        quarters(land, daughter, "0 by 5, 1 by 2, ");
    }

    private static void threeAndMoreQuarters() {
        Blazonry land = family();
        land.death(1);
        int third = man(land, -1);
        int wife = woman(land, third);
        grant(land, third, 0, 12, 2, 16, 5);
        land.death(third);
        int child = land.birth(3, wife, true);
        quarters(land, child, "0 by 6, 1 by 2, 2 by 5, ");
        row(land, child, 2, "3333333311111111");
        row(land, child, 6, "3333333344444444");
        row(land, child, 8, "2222222233333333");
        row(land, child, 15, "5555555533333333");
        int fourth = man(land, -1);
        int another = woman(land, fourth);
        grant(land, fourth, 0, 12, 2, 16, 6);
        land.death(fourth);
        int grandchild = land.birth(child, another, true);
        quarters(land, grandchild, "0 by 9, 1 by 2, 2 by 5, 3 by 8, ");
        row(land, grandchild, 7, "3333333344444444");
        row(land, grandchild, 15, "5555555566666666");
        int fifth = man(land, -1);
        int last = woman(land, fifth);
        grant(land, fifth, 0, 8);
        land.death(fifth);
        int youngest = land.birth(grandchild, last, false);
        quarters(land, youngest, "0 by 12, 1 by 2, 2 by 5, 3 by 8, 4 by 11, ");
        row(land, youngest, 15, "5555555566666666");
        Check.due("the fifth is not drawn", 0, () -> land.shield(youngest, 2, 8));
    }

    /** Each quarter is drawn as the one bears it by whom it is. */
    private static void differencedQuarters() {
        Blazonry land = new Blazonry();
        int grandfather = man(land, -1);
        man(land, grandfather);
        int second = man(land, grandfather);
        int mother = woman(land, second);
        int father = man(land, -1);
        grant(land, grandfather, 1, 1);
        grant(land, father, 1, 2);
        land.birth(father, mother, true);
        int son = land.birth(father, mother, true);
        land.death(second);
        quarters(land, son, "1 by 6, 0 by 3, ");
        row(land, son, 0, "4444444444444444");
        row(land, son, 1, "4222222441111114");
        row(land, son, 9, "4111111442222224");
        grant(land, mother, 1, 3);
        quarters(land, son, "1 by 6, 2 by 3, 0 by 2, ");
        row(land, son, 1, "4222222433333333");
        row(land, son, 9, "4111111442222224");
    }

    private static void eightQuarters() {
        Blazonry land = new Blazonry();
        int heir = man(land, -1);
        grant(land, heir, 0, 1);
        StringBuilder want = new StringBuilder();
        for (int i = 1; i <= 9; i++) {
            int father = man(land, -1);
            int mother = woman(land, father);
            grant(land, father, 0, 1 + i % 8, 21 + i % 8, 2 + i % 7);
            land.death(father);
            if (i < 8) {
                want.append(i).append(" by ").append(mother).append(", ");
            }
            heir = land.birth(heir, mother, true);
        }
        int last = heir;
        Check.due("eight at most", 8, () -> land.quarters(last));
        quarters(land, heir, "0 by " + heir + ", " + want);
        Check.refused(land, "the ninth", NoSuchElementException.class, () -> land.quarter(last, 8));
        Check.due("isSound", true, land::isSound);
    }

    private static void deadMothers() {
        Blazonry land = family();
        land.death(2);
        quarters(land, 3, "0 by 3, ");
        land.death(1);
        Check.due("an heiress now", true, () -> land.isHeiress(2));
        quarters(land, 3, "0 by 3, 1 by 2, ");
        Blazonry other = family();
        other.death(1);
        other.death(2);
        man(other, 1);
        Check.due("no heiress now", false, () -> other.isHeiress(2));
        quarters(other, 3, "0 by 3, 1 by 2, ");
        Blazonry none = family();
        none.death(2);
        none.death(0);
        man(none, 1);
        none.death(1);
        quarters(none, 3, "0 by 3, ");
        quarters(none, 0, "0 by 0, ");
        Check.due("no arms, no quarters", 0, () -> new Blazonry().birth(-1, -1, true));
        Blazonry bare = new Blazonry();
        man(bare, -1);
        Check.due("no quarters", 0, () -> bare.quarters(0));
    }

    private static void wives() {
        Blazonry land = family();
        land.marry(0, 2);
        row(land, 0, 0, "3333333311111111");
        row(land, 0, 9, "3333333344444444");
        row(land, 0, 15, "3333333344444444");
        row(land, 2, 0, "1111111111111111");
        land.death(1);
        row(land, 0, 0, "3333333333333333");
        row(land, 0, 4, "3333333333333333");
        row(land, 0, 5, "3333311111133333");
        row(land, 0, 10, "3333344444433333");
        row(land, 0, 11, "3333333333333333");
        land.abate(2, true);
        row(land, 0, 6, "3333317777133333");
        land.death(2);
        row(land, 0, 5, "3333333333333333");
        Blazonry bare = new Blazonry();
        man(bare, -1);
        woman(bare, -1);
        bare.marry(0, 1);
        grant(bare, 0, 0, 4);
        row(bare, 0, 5, "4444444444444444");
        Check.refused(bare, "a wife without arms", NoSuchElementException.class, () -> bare.ofShield(1, 0, 0));
        Blazonry hers = new Blazonry();
        man(hers, -1);
        woman(hers, -1);
        hers.marry(0, 1);
        grant(hers, 1, 0, 4);
        Check.refused(hers, "a man without arms", NoSuchElementException.class, () -> hers.ofShield(0, 9, 0));
    }

    private static void abatements() {
        Blazonry land = new Blazonry();
        man(land, -1);
        grant(land, 0, 0, 3);
        land.abate(0, true);
        row(land, 0, 5, "3333333333333333");
        row(land, 0, 6, "3333337777333333");
        row(land, 0, 9, "3333337777333333");
        row(land, 0, 10, "3333333333333333");
        Check.due("arms themselves are not", 3, () -> land.ofArms(0, 6, 6));
        land.death(0);
        row(land, 0, 6, "3333333333333333");
    }

    private static void wrongInputs() {
        Blazonry land = new Blazonry();
        man(land, -1);
        man(land, -1);
        grant(land, 0, 0, 3);
        for (int person : new int[] {-1, 2, 40}) {
            Check.refused(land, "ofShield", IndexOutOfBoundsException.class, () -> land.ofShield(person, 0, 0));
            Check.refused(land, "shield", IndexOutOfBoundsException.class, () -> land.shield(person, 9, 1));
            Check.refused(land, "quarters", IndexOutOfBoundsException.class, () -> land.quarters(person));
            Check.refused(land, "quarter", IndexOutOfBoundsException.class, () -> land.quarter(person, 0));
            Check.refused(land, "quarterBy", IndexOutOfBoundsException.class, () -> land.quarterBy(person, 0));
        }
        for (int at : new int[] {-1, 16}) {
            Check.refused(land, "x", IndexOutOfBoundsException.class, () -> land.ofShield(1, at, 0));
            Check.refused(land, "y", IndexOutOfBoundsException.class, () -> land.ofShield(1, 0, at));
        }
        int[][] wrong = {{-1, 1}, {4, 1}, {0, 0}, {0, 9}};
        for (int[] of : wrong) {
            Check.refused(land, "shield", IllegalArgumentException.class, () -> land.shield(1, of[0], of[1]));
        }
        Check.refused(land, "no shield", NoSuchElementException.class, () -> land.shield(1, 0, 1));
        Check.refused(land, "no point", NoSuchElementException.class, () -> land.ofShield(1, 0, 0));
        for (int index : new int[] {-1, 1, 8}) {
            Check.refused(land, "quarter", NoSuchElementException.class, () -> land.quarter(0, index));
            Check.refused(land, "quarterBy", NoSuchElementException.class, () -> land.quarterBy(0, index));
        }
        Check.refused(land, "quarter of no arms", NoSuchElementException.class, () -> land.quarter(1, 0));
    }
}
