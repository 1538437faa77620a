/** Sentences on kin, arms and shields that the other tests leave open; promises 15 to 38. */
public final class ClauseKinTest {
    private static final String NONE = "throws.NoSuchElementException";

    public static void main(String[] args) {
        halfBrothers();
        sisters();
        whoMayMarry();
        voidArmsOfFathers();
        calledEarlier();
        lastOneLeft(true);
        lastOneLeft(false);
        callsThatLast();
        allDaughters();
        orderOfDifferences();
        twoDifferencesInAQuarter();
        deadMothersOwnArms();
        ownArmsAndQuarters();
        wivesOfTheSameArms();
        wifeOfAQuarteredMan();
        ofTheVoid();
        Check.end();
    }

    private static void borne(Blazonry land, String want, int person) {
        StringBuilder got = new StringBuilder(Check.told(() -> land.borne(person)));
        if (!got.toString().equals(NONE)) {
            for (int i = 0; i < land.differences(person); i++) {
                got.append(' ').append(land.difference(person, i));
            }
        }
        Check.same("borne by " + person, want, got.toString());
    }

    private static void quarters(Blazonry land, String want, int person) {
        StringBuilder got = new StringBuilder();
        for (int i = 0; i < land.quarters(person); i++) {
            got.append(i == 0 ? "" : " ").append(land.quarter(person, i)).append(" by ").append(land.quarterBy(person, i));
        }
        Check.same("quarters of " + person, want, got.toString());
    }

    /** The heir is that living son of whose elder brothers nobody lives: an elder son of the mother is none of them. */
    private static void halfBrothers() {
        Blazonry land = new Blazonry();
        int father = Lands.man(land, -1);
        int mother = Lands.woman(land, -1);
        int hers = land.birth(-1, mother, true);
        int his = land.birth(father, -1, true);
        int theirs = land.birth(father, mother, true);
        Lands.grant(land, father, 3, 3);
        borne(land, NONE, hers);
        borne(land, "0 1", his);
        borne(land, "0 2", theirs);
        land.death(father);
        borne(land, "0", his);
        borne(land, "0 2", theirs);
        land.death(his);
        borne(land, "0", theirs);
        borne(land, NONE, hers);
    }

    /** A woman is an heiress if nobody of her father's male line lives: her sisters, living or not, do not count. */
    private static void sisters() {
        Blazonry land = new Blazonry();
        int father = Lands.man(land, -1);
        for (int p = 1; p <= 3; p++) {
            Lands.woman(land, father);
        }
        int stranger = Lands.man(land, -1);
        land.death(father);
        for (int p = 1; p <= 3; p++) {
            int person = p;
            Check.due("the daughter " + p, true, () -> land.isHeiress(person));
        }
        Check.due("the youngest one marries", true, () -> land.marry(stranger, 3));
        land.death(2);
        Check.due("dead", true, () -> land.isHeiress(2));
        Check.due("her sister", true, () -> land.isHeiress(3));
        Check.due("a man is none", false, () -> land.isHeiress(stranger));
    }

    /** A man can marry a woman, both living and without a living wife or husband: kin too. */
    private static void whoMayMarry() {
        Blazonry land = new Blazonry();
        int father = Lands.man(land, -1);
        int mother = Lands.woman(land, -1);
        int son = land.birth(father, mother, true);
        int daughter = land.birth(father, mother, false);
        Check.due("brother and sister", false, () -> land.marry(son, daughter));
        Check.due("his mother", "throws.UnsupportedOperationException", () -> land.marry(son, mother));
        land.death(daughter);
        Check.due("his mother then", false, () -> land.marry(son, mother));
        Check.due("the son", mother, () -> land.spouse(son));
    }

    /** What the father bore as he died, unless it is void: nothing then, and nothing of the grandfather. */
    private static void voidArmsOfFathers() {
        Blazonry land = new Blazonry();
        int grandfather = Lands.man(land, -1);
        int father = Lands.man(land, grandfather);
        int son = Lands.man(land, father);
        int rival = Lands.man(land, -1);
        Lands.grant(land, grandfather, 0, 3);
        Lands.grant(land, father, 1, 4);
        Lands.assume(land, rival, 1, 4, 66, 54, 1);
        land.death(father);
        borne(land, "1", son);
        land.pass(60);
        Check.due("a suit", 0, () -> land.sue(rival, son));
        Check.due("of long ago", 'y', () -> land.judged(0));
        borne(land, "0", grandfather);
        borne(land, NONE, father);
        borne(land, NONE, son);
        Check.due("no quarters", 0, () -> land.quarters(son));
        Check.due("two bear arms", (float) 2 / (float) 3, land::armigerShare);
        land.appeal(0);
        borne(land, "1", father);
        borne(land, "1", son);
        borne(land, NONE, rival);
    }

    /** Unless one of these was called the last: who was called among other heiresses is none of these. */
    private static void calledEarlier() {
        Blazonry land = new Blazonry();
        int father = Lands.man(land, -1);
        int first = Lands.woman(land, father);
        int second = Lands.woman(land, father);
        Lands.grant(land, father, 0, 3);
        Check.due("an abeyance", 1, () -> land.death(father));
        Check.due("of two", 2, () -> land.call(0, first));
        int son = Lands.man(land, father);
        borne(land, "0", son);
        Check.due("a line again", false, () -> land.isHeiress(first));
        int third = Lands.woman(land, son);
        int fourth = Lands.woman(land, son);
        Check.due("another abeyance", 1, () -> land.death(son));
        Check.due("lies between", true, () -> land.isInAbeyance(0));
        Check.due("none of these", "throws.UnsupportedOperationException", () -> land.call(0, first));
        Check.due("none of these", "throws.UnsupportedOperationException", () -> land.call(0, second));
        Check.due("of two", 2, () -> land.call(0, fourth));
        Check.due("called", false, () -> land.isInAbeyance(0));
        Check.due("called already", "throws.UnsupportedOperationException", () -> land.call(0, third));
        Check.due("as long as she lives", 0, () -> land.death(fourth));
        borne(land, "0", third);
        Check.due("not extinct", false, () -> land.isExtinct(0));
    }

    /** If there is one, they fall to her, whoever was called before; she bears them without differences. */
    private static void lastOneLeft(boolean isGranted) {
        Blazonry land = new Blazonry();
        int father = Lands.man(land, -1);
        int son = Lands.man(land, father);
        Check.typed(land, 3);
        Check.due("granted or assumed", 0, () -> isGranted ? land.grant(father, 0) : land.assume(father, 0));
        int first = Lands.woman(land, son);
        int second = Lands.woman(land, son);
        int third = Lands.woman(land, son);
        land.death(son);
        Lands.grant(land, father, 1, 4);
        Check.due("an abeyance of the first arms", 1, () -> land.death(father));
        borne(land, "0 1", first);
        Check.due("of three", 3, () -> land.call(0, first));
        borne(land, "0", first);
        borne(land, "0 1", second);
        Check.due("the called one dies", 1, () -> land.death(first));
        borne(land, "0 1", second);
        borne(land, "0 1", third);
        Check.due("one is left", 0, () -> land.death(second));
        borne(land, "0", third);
        borne(land, "0 1", second);
        borne(land, "0", first);
    }

    /** Unless one was called the last: neither a visitation nor a judgment that stands no more changes that. */
    private static void callsThatLast() {
        Blazonry land = new Blazonry();
        int father = Lands.man(land, -1);
        int son = Lands.man(land, father);
        Lands.assume(land, father, 0, 3);
        int first = Lands.woman(land, son);
        int second = Lands.woman(land, son);
        int rival = Lands.man(land, -1);
        land.death(son);
        Lands.grant(land, father, 1, 4);
        land.death(father);
        land.call(0, second);
        land.pass(60);
        Check.due("granted then", 1, () -> land.visit(0));
        borne(land, "0", second);
        borne(land, "0 1", first);
        Lands.assume(land, rival, 0, 3, 65, 54, 1);
        land.pass(60);
        Check.due("a suit", 0, () -> land.sue(rival, first));
        Check.due("the younger ones win", 'v', () -> land.cameBy(0));
        borne(land, NONE, second);
        Check.due("void, and so between nobody", false, () -> land.isInAbeyance(0));
        land.appeal(0);
        borne(land, "0", second);
        borne(land, "0 1", first);
        Check.due("called still", false, () -> land.isInAbeyance(0));
        Check.due("sound", true, land::isSound);
    }

    /** The living daughters of that man: by whatever mothers, married or not. */
    private static void allDaughters() {
        Blazonry land = new Blazonry();
        int father = Lands.man(land, -1);
        int wife = Lands.woman(land, -1);
        int other = Lands.woman(land, -1);
        int first = land.birth(father, wife, false);
        land.birth(father, other, false);
        land.birth(father, -1, false);
        int hers = land.birth(-1, wife, false);
        int husband = Lands.man(land, -1);
        land.marry(husband, first);
        Lands.grant(land, father, 2, 3);
        Check.due("an abeyance", 1, () -> land.death(father));
        Check.due("no daughter of his", "throws.UnsupportedOperationException", () -> land.call(0, hers));
        Check.due("of three", 3, () -> land.call(0, first));
    }

    /** A man with these, and one more: each behind the others. */
    private static void orderOfDifferences() {
        Blazonry land = new Blazonry();
        int man = Lands.man(land, -1);
        Lands.grant(land, man, 1, 1);
        int[] places = {2, 3, 1, 2};
        StringBuilder want = new StringBuilder("0");
        for (int place : places) {
            int father = man;
            for (int i = 0; i < place; i++) {
                man = Lands.man(land, father);
            }
            want.append(' ').append(place);
            borne(land, want.toString(), man);
        }
        int woman = Lands.woman(land, man);
        borne(land, want.toString(), woman);
        // of bordures the last one is seen
        Check.due("the last one", 4, () -> land.ofShield(woman, 0, 0));
        Check.due("three of four bear them with differences", (float) 1, land::armigerShare);
    }

    /** Each quarter has the differences with which the one bears it by whom it is: two labels here. */
    private static void twoDifferencesInAQuarter() {
        Blazonry land = new Blazonry();
        int first = Lands.man(land, -1);
        Lands.man(land, first);
        int second = Lands.man(land, first);
        Lands.man(land, second);
        int grandson = Lands.man(land, second);
        int mother = Lands.woman(land, grandson);
        Lands.grant(land, first, 0, 3);
        int father = Lands.man(land, -1);
        Lands.grant(land, father, 3, 4);
        int child = land.birth(father, mother, true);
        quarters(land, "1 by " + child, child);
        land.death(grandson);
        quarters(land, "1 by " + child + " 0 by " + mother, child);
        borne(land, "0 2 2", mother);
        // each second point: of the labels at x 0 and 2, and at x 4 and 6, the corners
        int[] above = {5, 5, 5, 5, 3, 3, 3, 3};
        for (int x = 0; x < 8; x++) {
            int across = x;
            for (int y = 0; y < 8; y++) {
                int down = y;
                int want = y < 2 ? above[x] : 3;
                Check.due("above right", want, () -> land.ofShield(child, 8 + across, down));
                Check.due("below left", want, () -> land.ofShield(child, across, 8 + down));
                Check.due("above left", 4, () -> land.ofShield(child, across, down));
            }
        }
    }

    /** Then those of the mother, if she was an heiress as she died, whatever arms she bore so. */
    private static void deadMothersOwnArms() {
        Blazonry land = new Blazonry();
        int forefather = Lands.man(land, -1);
        int mother = Lands.woman(land, forefather);
        land.death(forefather);
        Lands.grant(land, mother, 0, 3);
        int father = Lands.man(land, -1);
        Lands.grant(land, father, 1, 4);
        int child = land.birth(father, mother, true);
        quarters(land, "1 by " + child + " 0 by " + mother, child);
        land.death(mother);
        quarters(land, "1 by " + child + " 0 by " + mother, child);
        Lands.man(land, forefather);
        Check.due("as things are now", false, () -> land.isHeiress(mother));
        quarters(land, "1 by " + child + " 0 by " + mother, child);
    }

    /** What is borne, by this person; then the quarters of the father; then those of the mother: own arms are no hindrance. */
    private static void ownArmsAndQuarters() {
        Blazonry land = new Blazonry();
        int forefather = Lands.man(land, -1);
        int mother = Lands.woman(land, forefather);
        int father = Lands.man(land, -1);
        int child = land.birth(father, mother, false);
        Lands.grant(land, forefather, 0, 3);
        Lands.grant(land, father, 0, 4);
        Lands.grant(land, child, 0, 5);
        quarters(land, "2 by " + child + " 1 by " + father, child);
        land.death(forefather);
        quarters(land, "2 by " + child + " 1 by " + father + " 0 by " + mother, child);
        land.death(father);
        quarters(land, "2 by " + child + " 1 by " + father + " 0 by " + mother, child);
        Lands.grant(land, mother, 0, 6);
        quarters(land, "2 by " + child + " 1 by " + father + " 3 by " + mother + " 0 by " + forefather, child);
    }

    /** Of a man with a wife who bears arms, her shield: also of the same arms, with her differences. */
    private static void wivesOfTheSameArms() {
        Blazonry land = new Blazonry();
        int forefather = Lands.man(land, -1);
        int elder = Lands.man(land, forefather);
        int younger = Lands.man(land, forefather);
        int cousin = Lands.woman(land, younger);
        Lands.grant(land, forefather, 2, 3);
        land.marry(elder, cousin);
        points(land, elder, 4, 4, 5, 5);
        land.death(younger);
        Check.due("an heiress with a difference", true, () -> land.isHeiress(cousin));
        borne(land, "0 2", cousin);
        points(land, elder, 4, 5, 5, 4);
        land.death(forefather);
        points(land, elder, 3, 5, 5, 3);
        points(land, cousin, 5, 5, 5, 5);
    }

    /** Over his quarters, of a man with a wife who bears arms, her shield. */
    private static void wifeOfAQuarteredMan() {
        Blazonry land = new Blazonry();
        int forefather = Lands.man(land, -1);
        int mother = Lands.woman(land, forefather);
        int father = Lands.man(land, -1);
        int man = land.birth(father, mother, true);
        Lands.grant(land, forefather, 3, 3);
        Lands.grant(land, father, 3, 4);
        land.death(forefather);
        int hers = Lands.man(land, -1);
        int wife = Lands.woman(land, hers);
        Lands.grant(land, hers, 3, 5);
        points(land, man, 4, 4, 3, 3);
        land.marry(man, wife);
        points(land, man, 4, 4, 5, 5);
        land.death(hers);
        points(land, man, 4, 5, 5, 3);
        land.abate(man, true);
        Check.due("over all", 7, () -> land.ofShield(man, 7, 7));
        points(land, man, 4, 5, 5, 3);
        Check.due("sound", true, land::isSound);
    }

    private static void points(Blazonry land, int person, int... want) {
        int[] x = {0, 5, 10, 15};
        for (int i = 0; i < 4; i++) {
            int across = x[i];
            Check.due("point of " + person + " at " + across, want[i], () -> land.ofShield(person, across, 6));
        }
    }

    /** Arms that are void keep what they look like, their year, and their augmentation. */
    private static void ofTheVoid() {
        Blazonry land = new Blazonry();
        for (int p = 0; p < 3; p++) {
            Lands.man(land, -1);
        }
        Lands.grant(land, 0, 0, 3);
        land.pass(7);
        Lands.assume(land, 1, 0, 3, 65, 54, 1);
        land.augment(1, 3, 53, 2);
        Lands.grant(land, 2, 1, 4);
        int before = land.distance(0, 1);
        long all = land.allPoints();
        land.pass(3);
        land.sue(0, 1);
        looks(land, 'v', before, all);
        land.appeal(0);
        looks(land, 'u', before, all);
        Check.due("the other ones", 'v', () -> land.cameBy(0));
        Check.due("their year", 0, () -> land.yearOf(0));
        Check.due("augmented still", false, () -> land.augment(1, 3, 53, 2));
    }

    private static void looks(Blazonry land, char letter, int distance, long all) {
        Check.due("how it came", letter, () -> land.cameBy(1));
        Check.due("the year", 7, () -> land.yearOf(1));
        Check.due("the augmentation", 2, () -> land.ofArms(1, 2, 1));
        Check.due("the square", 3, () -> land.ofArms(1, 1, 1));
        Check.due("the charges", 1, () -> land.ofArms(1, 9, 1));
        Check.due("as far", distance, () -> land.distance(0, 1));
        Check.due("all points", all, land::allPoints);
        Check.due("the words", 1, () -> land.withWord(54));
        Check.due("the mean", 6.0 / 3.0, land::meanWords);
        Check.due("a place between heiresses", false, () -> land.isInAbeyance(1));
    }
}
