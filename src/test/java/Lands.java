/** Lands that several tests start from; each made anew when it is asked for. */
final class Lands {
    static final Twin.Maker EMPTY = Blazonry::new;
    static final Twin.Maker FAMILY = Lands::family;
    static final Twin.Maker FULL = Lands::full;

    private Lands() {
    }

    static int man(Blazonry land, int father) {
        return land.birth(father, -1, true);
    }

    static int woman(Blazonry land, int father) {
        return land.birth(father, -1, false);
    }

    static int grant(Blazonry land, int person, int of, int... words) {
        return Check.typed(land, words).grant(person, of);
    }

    static int assume(Blazonry land, int person, int of, int... words) {
        return Check.typed(land, words).assume(person, of);
    }

    /**
     * Persons: 0 a man with the arms 0, his wife 1, their sons 2 and 3 and their daughter 4; 5 and 6 with the arms 1 and
     * 2, near to these; 7 is dead, his arms 3 lie between his daughters 8 and 9; 10 has no arms; 11 is dead, without
     * arms. The arms 4, of 12, are void by the judgment 0, those of 13 by a visitation. The row is a blazon.
     */
    private static Blazonry family() {
        Blazonry land = new Blazonry();
        man(land, -1);
        woman(land, -1);
        land.birth(0, 1, true);
        land.birth(0, 1, true);
        land.birth(0, 1, false);
        for (int p = 5; p < 8; p++) {
            man(land, -1);
        }
        woman(land, 7);
        woman(land, 7);
        for (int p = 10; p < 14; p++) {
            man(land, -1);
        }
        grant(land, 0, 0, 3);
        land.pass(1);
        assume(land, 5, 0, 3, 64, 54, 1);
        assume(land, 6, 0, 3, 61, 54, 1);
        grant(land, 7, 1, 1, 22, 5);
        assume(land, 12, 0, 3, 65, 54, 1);
        assume(land, 13, 2, 4);
        land.marry(0, 1);
        land.death(7);
        land.death(11);
        land.sue(0, 12);
        land.visit(2);
        land.setCrest(0, 52);
        land.setSupporters(0, 53, 54);
        land.setRank(2, 1);
        land.abate(3, true);
        land.augment(3, 1, 56, 3);
        return Check.typed(land, 11, 9, 1, 16, 3, 22, 35, 36, 62, 52, 31, 63, 53, 41, 8);
    }

    /**
     * 40 persons, 24 arms, 20 judgments, the year 5000 and a row of 24 words. The persons 0 to 23 have the arms of their
     * number, 12 points apart; those of 1 to 20 are void, as 0 won against them.
     */
    private static Blazonry full() {
        Blazonry land = new Blazonry();
        for (int p = 0; p < 40; p++) {
            man(land, p < 24 ? -1 : p - 24);
        }
        for (int y = 0; y < 50; y++) {
            land.pass(100);
        }
        for (int p = 0; p < 24; p++) {
            land.type(3);
            for (int word : p % 2 == 0 ? new int[0] : new int[] {64, 54, 1}) {
                land.type(word);
            }
            land.assume(p, 0);
        }
        for (int p = 1; p <= 20; p++) {
            land.sue(0, p);
        }
        for (int word : TWENTY_FOUR) {
            land.type(word);
        }
        return land;
    }

    /** A blazon of 24 words. */
    static final int[] TWENTY_FOUR = {
        11, 9, 1, 16, 2, 22, 9, 3, 36, 61, 51, 45, 1, 23, 10, 4, 36, 62, 52, 46, 2, 24, 9, 5};
}
