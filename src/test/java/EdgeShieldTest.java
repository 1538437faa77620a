import java.util.NoSuchElementException;

/** The bounds that the document names for promises 34 to 38, in the section Marshalling, and for what differences draw. */
public final class EdgeShieldTest {
    private static final int[] FAR = {Integer.MIN_VALUE, -1, 16, Integer.MAX_VALUE};

    public static void main(String[] args) {
        labels();
        labelTinctures();
        labelPlaces();
        bordures();
        nextTinctures();
        whatGroupsMeant();
        noneDrawn();
        augmentedOverAll();
        oneToFourPlaces();
        pointsOfQuarters();
        eightAtMost();
        whoHasQuarters();
        wivesPoints();
        wivesShields();
        abatedPoints();
        quarterIndices();
        pointBounds();
        shapeBounds();
        Check.end();
    }

    private static void point(Blazonry land, int want, int person, int x, int y) {
        Check.due("point " + x + " " + y + " of the shield of " + person, want, () -> land.ofShield(person, x, y));
    }

    private static void count(Blazonry land, int want, int person, int tincture) {
        Check.due("points of " + tincture + " of " + person, want, () -> land.shield(person, 2, tincture));
    }

    private static void quarters(Blazonry land, String want, int person) {
        StringBuilder got = new StringBuilder();
        for (int q = 0; q < land.quarters(person); q++) {
            got.append(land.quarter(person, q)).append('/').append(land.quarterBy(person, q)).append(' ');
        }
        Check.same("quarters of " + person, want, got.toString().trim());
    }

    /** A man, 0, with these arms, and 39 sons. */
    private static Blazonry sons(int of, int... words) {
        Blazonry land = new Blazonry();
        Lands.man(land, -1);
        for (int p = 1; p < 40; p++) {
            Lands.man(land, 0);
        }
        Lands.grant(land, 0, of, words);
        return land;
    }

    /** In 0 one group more, 61, the charge 50 plus d, at most 58. */
    private static void labels() {
        Blazonry land = sons(0, 3);
        int[] counts = {5, 5, 3, 3, 8, 9, 5, 5};
        for (int son = 1; son < 40; son++) {
            count(land, counts[Math.min(son, 8) - 1], son, 5);
            count(land, 256 - counts[Math.min(son, 8) - 1], son, 3);
        }
        count(land, 0, 0, 5);
        // 57 has the first point and not the second last one, 58 has the third one and not the first one
        point(land, 5, 7, 0, 0);
        point(land, 3, 7, 2, 0);
        for (int son : new int[] {8, 9, 10, 39}) {
            point(land, 3, son, 0, 0);
            point(land, 5, son, 2, 0);
            point(land, 5, son, 0, 2);
        }
    }

    /** And the tincture 5, or 2 if the first one of the field is 5. */
    private static void labelTinctures() {
        for (int first = 1; first <= 8; first++) {
            Blazonry land = sons(0, first);
            point(land, first == 5 ? 2 : 5, 6, 1, 1);
            Blazonry parted = sons(0, 12, first, 16, first == 5 ? 3 : 5);
            point(parted, first == 5 ? 2 : 5, 6, 1, 1);
            point(parted, first == 5 ? 3 : 5, 6, 1, 9);
        }
    }

    /** 41: the first blocks of the upper two rows that are free, each one behind the other; more than 4 groups so. */
    private static void labelPlaces() {
        Blazonry land = new Blazonry();
        for (int p = 0; p < 40; p++) {
            Lands.man(land, p - 1);
        }
        Lands.grant(land, 0, 0, 3);
        for (int p = 0; p < 40; p++) {
            count(land, 5 * Math.min(p, 8), p, 5);
        }
        point(land, 5, 4, 13, 1);
        point(land, 3, 4, 1, 5);
        point(land, 5, 5, 1, 5);
        point(land, 5, 39, 13, 5);
        point(land, 3, 39, 1, 9);
        Blazonry four = new Blazonry();
        Lands.man(four, -1);
        Lands.man(four, 0);
        Lands.man(four, 1);
        Lands.grant(four, 0, 0, 3, 61, 56, 1, 61, 56, 1, 61, 56, 42, 1, 64, 56, 41, 1);
        point(four, 1, 2, 6, 5);
        point(four, 5, 2, 9, 5);
        point(four, 5, 2, 13, 5);
        count(four, 5, 1, 5);
        count(four, 10, 2, 5);
        Blazonry full = sons(0, 3, 24, 1);
        count(full, 0, 6, 5);
        Blazonry bend = sons(0, 3, 23, 1);
        point(bend, 5, 6, 9, 1);
    }

    /** In 1 one group more, 28 and the tincture 2 plus d, at most 7. */
    private static void bordures() {
        Blazonry land = sons(1, 8, 22, 1);
        for (int son = 1; son < 40; son++) {
            int want = son < 5 ? 2 + son : 7;
            count(land, 112, son, want);
            point(land, want, son, 1, 1);
            point(land, want, son, 14, 7);
            point(land, 8, son, 2, 2);
            point(land, 1, son, 13, 7);
        }
        count(land, 64, 0, 1);
        Blazonry line = new Blazonry();
        for (int p = 0; p < 4; p++) {
            Lands.man(line, -1);
        }
        Lands.grant(line, 0, 1, 3, 24, 1, 22, 1, 21, 1, 25, 1);
        for (int p = 4; p < 8; p++) {
            Lands.man(line, p == 4 ? 0 : p - 1);
        }
        Lands.man(line, 5);
        point(line, 3, 7, 0, 0);
        // each one behind the other: the last one, the second son's, is seen
        point(line, 4, 8, 0, 0);
        Blazonry back = new Blazonry();
        Lands.man(back, -1);
        Lands.man(back, 0);
        Lands.man(back, 0);
        Lands.man(back, 2);
        Lands.grant(back, 0, 1, 8);
        point(back, 4, 2, 0, 0);
        point(back, 3, 3, 0, 0);
    }

    /** In 2 the first tincture is replaced, d times, by the next one of its kind, metals, colours and the fur going round. */
    private static void nextTinctures() {
        int[][] rounds = {{1, 2}, {2, 1}, {3, 4, 5, 6, 7}, {4, 5, 6, 7, 3}, {5, 6, 7, 3, 4}, {6, 7, 3, 4, 5}, {7, 3, 4, 5, 6}, {8}};
        for (int first = 1; first <= 8; first++) {
            int[] round = rounds[first - 1];
            Blazonry land = sons(2, first);
            for (int son = 0; son < 40; son++) {
                count(land, 256, son, round[son % round.length]);
            }
            Blazonry line = new Blazonry();
            for (int p = 0; p < 12; p++) {
                Lands.man(line, p - 1);
            }
            Lands.man(line, 2);
            int second = Lands.man(line, 2);
            Lands.grant(line, 0, 2, first);
            for (int p = 0; p < 12; p++) {
                point(line, round[p % round.length], p, 15, 15);
            }
            Check.due("first, first, third", 3, () -> line.difference(second, 2));
            point(line, round[5 % round.length], second, 0, 0);
            Check.due("the arms as they were", first, () -> line.ofArms(0, 0, 0));
        }
    }

    /** While groups keep what they meant; the second tincture stays, and what is counterchanged follows the field. */
    private static void whatGroupsMeant() {
        int[] reaching = {31, 32, 7};
        for (int word : reaching) {
            Blazonry land = sons(2, 7, 22, word);
            point(land, 7, 1, 0, 6);
            point(land, 3, 1, 0, 5);
        }
        Blazonry on = sons(2, 12, 1, 16, 7, 24, 35, 36, 61, 56, 31, 22, 33, 28, 32);
        point(on, 2, 1, 2, 5);
        point(on, 7, 1, 4, 3);
        point(on, 1, 1, 2, 2);
        point(on, 1, 1, 0, 0);
        point(on, 7, 1, 2, 6);
        point(on, 7, 1, 2, 12);
        Blazonry both = sons(2, 12, 7, 16, 31, 22, 35);
        point(both, 3, 1, 0, 0);
        point(both, 7, 1, 0, 7);
        point(both, 3, 1, 0, 8);
        point(both, 7, 1, 0, 15);
    }

    /** In 3 none is drawn. */
    private static void noneDrawn() {
        Blazonry land = sons(3, 3, 22, 1);
        for (int son = 0; son < 40; son++) {
            count(land, 192, son, 3);
            count(land, 64, son, 1);
        }
        Check.due("though it is borne", 39, () -> land.difference(39, 0));
    }

    /** Augmentations are drawn over all: x and y at most 4, the charge from x 1 and y 1 on. */
    private static void augmentedOverAll() {
        for (int of = 0; of < 4; of++) {
            Blazonry land = sons(of, 3);
            land.augment(0, 8, 56, 2);
            for (int person : new int[] {0, 1, 39}) {
                for (int i = 0; i < 25; i++) {
                    int x = i % 5;
                    int y = i / 5;
                    boolean isInside = x >= 1 && x <= 3 && y >= 1 && y <= 3;
                    point(land, isInside ? 2 : 8, person, x, y);
                }
                int beside = land.ofShield(person, 5, 5);
                Check.same("not augmented", "false", String.valueOf(beside == 8));
                Check.same("beside", "false", String.valueOf(land.ofShield(person, 5, 4) == 8));
                Check.same("below", "false", String.valueOf(land.ofShield(person, 4, 5) == 8));
            }
        }
    }

    /** A line of men, each the son of the one before and of an heiress; the last one told has so many quarters. */
    private static Blazonry lineOf(int count, int... last) {
        Blazonry land = new Blazonry();
        int heir = Lands.man(land, -1);
        Lands.grant(land, heir, 3, 1);
        for (int i = 1; i < count; i++) {
            int father = Lands.man(land, -1);
            int mother = Lands.woman(land, father);
            Check.typed(land, i == count - 1 && last.length > 0 ? last : new int[] {1 + i % 8}).assume(father, 3);
            land.death(father);
            heir = land.birth(heir, mother, true);
        }
        return land;
    }

    private static int lastOf(Blazonry land) {
        return land.persons() - 1;
    }

    /** Of two quarters they are 0, 1, 1, 0, of three 0, 1, 2, 0, of more the first four. */
    private static void oneToFourPlaces() {
        int[][] places = {{1, 1, 1, 1}, {1, 2, 2, 1}, {1, 2, 3, 1}, {1, 2, 3, 4}, {1, 2, 3, 4}, {1, 2, 3, 4},
            {1, 2, 3, 4}, {1, 2, 3, 4}, {1, 2, 3, 4}};
        for (int count = 1; count <= 9; count++) {
            Blazonry land = lineOf(count);
            int who = lastOf(land);
            Check.due("quarters", Math.min(count, 8), () -> land.quarters(who));
            for (int place = 0; place < 4; place++) {
                int left = place % 2 * 8;
                int top = place / 2 * 8;
                int want = places[count - 1][place];
                point(land, want, who, left, top);
                point(land, want, who, left + 7, top);
                point(land, want, who, left, top + 7);
                point(land, want, who, left + 7, top + 7);
            }
        }
    }

    /** At 2 times (x modulo 8), and 2 times (y modulo 8). */
    private static void pointsOfQuarters() {
        int[] words = {12, 10, 2, 16, 5, 28, 3, 62, 51, 43, 6, 61, 57, 44, 7};
        for (int count = 1; count <= 5; count++) {
            Blazonry land = lineOf(count, words);
            int who = lastOf(land);
            int arms = land.quarter(who, count - 1);
            for (int point = 0; point < 256 && count > 1 && count < 5; point++) {
                int x = point % 16;
                int y = point / 16;
                int place = x / 8 + y / 8 * 2;
                int which = count == 2 ? place % 3 == 0 ? 0 : 1 : count == 3 ? place % 3 : place;
                int want = which == count - 1 ? land.ofArms(arms, 2 * (x % 8), 2 * (y % 8)) : which + 1;
                point(land, want, who, x, y);
            }
        }
        // with one quarter, this one alone
        Blazonry one = new Blazonry();
        Lands.man(one, -1);
        Lands.grant(one, 0, 0, words);
        for (int point = 0; point < 256; point++) {
            int x = point % 16;
            int y = point / 16;
            point(one, one.ofArms(0, x, y), 0, x, y);
        }
    }

    /** Each arms once, at the first place, 8 at most. */
    private static void eightAtMost() {
        Blazonry land = lineOf(9);
        int who = lastOf(land);
        quarters(land, "0/24 1/2 2/5 3/8 4/11 5/14 6/17 7/20", who);
        Blazonry eight = lineOf(8);
        quarters(eight, "0/21 1/2 2/5 3/8 4/11 5/14 6/17 7/20", lastOf(eight));
        Lands.assume(land, who, 0, 5);
        quarters(land, "9/24 0/21 1/2 2/5 3/8 4/11 5/14 6/17", who);
        Check.due("sound", true, land::isSound);
        // by the father and by the mother, who are of one line: each arms once
        Blazonry cousins = new Blazonry();
        int first = Lands.man(cousins, -1);
        int elder = Lands.man(cousins, first);
        int younger = Lands.man(cousins, first);
        int daughter = Lands.woman(cousins, younger);
        Lands.grant(cousins, first, 0, 3);
        Lands.grant(cousins, elder, 0, 4);
        cousins.death(younger);
        int child = cousins.birth(elder, daughter, true);
        quarters(cousins, "1/4 0/0", child);
        Lands.grant(cousins, child, 0, 5);
        quarters(cousins, "2/4 1/1 0/0", child);
    }

    /** Who bears arms has quarters: those of the father, those of the mother if she is an heiress, or died as one. */
    private static void whoHasQuarters() {
        Blazonry land = new Blazonry();
        int father = Lands.man(land, -1);
        int grandfather = Lands.man(land, -1);
        int mother = Lands.woman(land, grandfather);
        int child = land.birth(father, mother, true);
        quarters(land, "", child);
        Lands.grant(land, grandfather, 0, 3);
        land.death(grandfather);
        quarters(land, "0/2", mother);
        quarters(land, "", child);
        Check.due("no arms, none", 0, () -> land.quarters(child));
        Lands.grant(land, father, 0, 4);
        quarters(land, "1/3 0/2", child);
        int uncle = Lands.man(land, grandfather);
        quarters(land, "1/3", child);
        land.death(uncle);
        land.death(mother);
        Lands.man(land, grandfather);
        Check.due("no heiress now", false, () -> land.isHeiress(mother));
        quarters(land, "1/3 0/2", child);
        Blazonry alive = new Blazonry();
        Lands.man(alive, -1);
        Lands.woman(alive, 0);
        alive.birth(-1, 1, true);
        Lands.grant(alive, 0, 0, 3);
        Lands.grant(alive, 2, 0, 4);
        quarters(alive, "1/2", 2);
        alive.death(1);
        quarters(alive, "1/2", 2);
        Blazonry bare = new Blazonry();
        Lands.man(bare, -1);
        Lands.man(bare, 0);
        Lands.grant(bare, 1, 0, 4);
        quarters(bare, "0/1", 1);
        Lands.grant(bare, 0, 0, 5);
        quarters(bare, "0/1 1/0", 1);
    }

    /** A man, 0, of the tincture 3, with a wife, 2, of 4, whose father is 1. */
    private static Blazonry couple() {
        Blazonry land = new Blazonry();
        Lands.man(land, -1);
        Lands.man(land, -1);
        Lands.woman(land, 1);
        Lands.grant(land, 0, 3, 3);
        Lands.grant(land, 1, 3, 4, 24, 1);
        land.marry(0, 2);
        return land;
    }

    /** On the points with x and y from 5 to 10, if she is an heiress, otherwise on those with x from 8 on. */
    private static void wivesPoints() {
        Blazonry land = couple();
        for (int point = 0; point < 256; point++) {
            int x = point % 16;
            int y = point / 16;
            point(land, x < 8 ? 3 : y < 5 ? 1 : 4, 0, x, y);
            point(land, y < 5 ? 1 : 4, 2, x, y);
        }
        land.death(1);
        for (int point = 0; point < 256; point++) {
            int x = point % 16;
            int y = point / 16;
            point(land, x >= 5 && x <= 10 && y >= 5 && y <= 10 ? 4 : 3, 0, x, y);
        }
        Lands.man(land, 1);
        count(land, 128, 0, 3);
        land.death(3);
        count(land, 220, 0, 3);
        land.death(2);
        count(land, 256, 0, 3);
        Blazonry widow = couple();
        widow.death(0);
        count(widow, 256, 0, 3);
        count(widow, 176, 2, 4);
    }

    /** Of a man with a wife who bears arms, her shield, with her quarters and her abatement; of a woman nothing. */
    private static void wivesShields() {
        Blazonry land = couple();
        Lands.grant(land, 2, 3, 7);
        land.death(1);
        quarters(land, "2/2 1/1", 2);
        point(land, 7, 0, 5, 5);
        point(land, 4, 0, 8, 5);
        point(land, 1, 0, 7, 10);
        point(land, 1, 0, 7, 8);
        point(land, 7, 0, 8, 8);
        land.abate(2, true);
        point(land, 7, 0, 9, 6);
        point(land, 4, 0, 10, 6);
        land.abate(0, true);
        count(land, 16 + 9 + 9 - 8, 0, 7);
        Blazonry bare = new Blazonry();
        Lands.man(bare, -1);
        Lands.woman(bare, -1);
        Lands.grant(bare, 0, 0, 3);
        bare.marry(0, 1);
        count(bare, 256, 0, 3);
        Lands.grant(bare, 1, 0, 4);
        count(bare, 128, 0, 3);
        Blazonry hers = new Blazonry();
        Lands.man(hers, -1);
        Lands.woman(hers, -1);
        Lands.grant(hers, 1, 0, 4);
        hers.marry(0, 1);
        Check.due("he bears none", "throws.NoSuchElementException", () -> hers.ofShield(0, 9, 9));
        Blazonry first = new Blazonry();
        Lands.man(first, -1);
        Lands.woman(first, -1);
        Lands.grant(first, 1, 0, 4);
        Lands.grant(first, 0, 0, 3);
        first.marry(0, 1);
        count(first, 128, 0, 4);
        count(hers, 256, 1, 4);
    }

    /** Over all, of a person who lives and is abated, the points with x and y from 6 to 9 have the tincture 7. */
    private static void abatedPoints() {
        Blazonry land = couple();
        land.augment(0, 1, 56, 8);
        land.death(1);
        land.abate(0, true);
        for (int point = 0; point < 256; point++) {
            int x = point % 16;
            int y = point / 16;
            boolean isAbated = x >= 6 && x <= 9 && y >= 6 && y <= 9;
            boolean isHers = x >= 5 && x <= 10 && y >= 5 && y <= 10;
            boolean isHonour = x < 5 && y < 5;
            boolean isInside = isHonour && x % 4 > 0 && y % 4 > 0;
            point(land, isAbated ? 7 : isHers ? 4 : isInside ? 8 : isHonour ? 1 : 3, 0, x, y);
        }
        land.death(0);
        count(land, 0, 0, 7);
        Blazonry dead = couple();
        dead.death(1);
        dead.abate(1, true);
        count(dead, 0, 1, 7);
    }

    /** index, from 0; NoSuchElementException if there is no such quarter. */
    private static void quarterIndices() {
        Twin.Maker eight = () -> lineOf(8);
        int last = 21;
        Check.due("the first", 0, () -> eight.make().quarter(last, 0));
        Check.due("by the heir", last, () -> eight.make().quarterBy(last, 0));
        Check.due("the last", 7, () -> eight.make().quarter(last, 7));
        Check.due("by the last mother", 20, () -> eight.make().quarterBy(last, 7));
        for (int index : new int[] {Integer.MIN_VALUE, -1, 8, 9, Integer.MAX_VALUE}) {
            Twin.refused("quarter", NoSuchElementException.class, eight, land -> land.quarter(last, index));
            Twin.refused("quarterBy", NoSuchElementException.class, eight, land -> land.quarterBy(last, index));
            Twin.refused("no person", IndexOutOfBoundsException.class, eight, land -> land.quarter(22, index));
            Twin.refused("no person", IndexOutOfBoundsException.class, eight, land -> land.quarterBy(-1, index));
        }
        Twin.refused("behind the only one", NoSuchElementException.class, eight, land -> land.quarter(0, 1));
        Twin.refused("behind the only one", NoSuchElementException.class, eight, land -> land.quarterBy(0, 1));
        Twin.refused("no arms", NoSuchElementException.class, Lands.FAMILY, land -> land.quarter(10, 0));
        Twin.refused("no arms", NoSuchElementException.class, Lands.FAMILY, land -> land.quarterBy(10, 0));
        // the ninth has none either, though there are nine arms
        Twin.Maker nine = () -> lineOf(9);
        Twin.refused("the ninth", NoSuchElementException.class, nine, land -> land.quarter(24, 8));
        Twin.refused("the ninth", NoSuchElementException.class, nine, land -> land.quarterBy(24, 8));
    }

    /** x and y, 0 to 15; IndexOutOfBoundsException ahead of NoSuchElementException. */
    private static void pointBounds() {
        Blazonry land = Lands.FAMILY.make();
        point(land, 3, 0, 0, 0);
        point(land, 3, 0, 15, 15);
        for (int far : FAR) {
            for (int person : new int[] {0, 10}) {
                Twin.refused("x", IndexOutOfBoundsException.class, Lands.FAMILY, of -> of.ofShield(person, far, 0));
                Twin.refused("y", IndexOutOfBoundsException.class, Lands.FAMILY, of -> of.ofShield(person, 15, far));
            }
        }
        for (int bare : new int[] {10, 11, 12, 13}) {
            Twin.refused("no arms", NoSuchElementException.class, Lands.FAMILY, of -> of.ofShield(bare, 0, 0));
            Twin.refused("no arms", NoSuchElementException.class, Lands.FAMILY, of -> of.ofShield(bare, 15, 15));
        }
    }

    /** shape, 0 to 3; tincture, 1 to 8; in the order person, shape and tincture, arms. */
    private static void shapeBounds() {
        int[] sizes = {200, 144, 256, 188};
        Blazonry land = Lands.FAMILY.make();
        for (int s = 0; s < 4; s++) {
            int shape = s;
            int sum = 0;
            for (int t = 1; t <= 8; t++) {
                sum += land.shield(5, shape, t);
            }
            Check.same("all points", String.valueOf(sizes[s]), String.valueOf(sum));
            Check.due("its own", sizes[shape], () -> Lands.FAMILY.make().shield(0, shape, 3));
            Twin.refused("no arms", NoSuchElementException.class, Lands.FAMILY, of -> of.shield(10, shape, 1));
        }
        for (int person : new int[] {0, 10}) {
            for (int shape : new int[] {Integer.MIN_VALUE, -1, 4, Integer.MAX_VALUE}) {
                Twin.refused("shape", IllegalArgumentException.class, Lands.FAMILY, of -> of.shield(person, shape, 1));
            }
            for (int tincture : new int[] {Integer.MIN_VALUE, -1, 0, 9, Integer.MAX_VALUE}) {
                Twin.refused("tincture", IllegalArgumentException.class, Lands.FAMILY,
                        of -> of.shield(person, 3, tincture));
            }
        }
        for (int person : new int[] {-1, 14}) {
            Twin.refused("no person", IndexOutOfBoundsException.class, Lands.FAMILY, of -> of.shield(person, 4, 9));
            Twin.refused("no person", IndexOutOfBoundsException.class, Lands.FAMILY, of -> of.ofShield(person, 16, 0));
        }
    }
}
