/** Sentences on the roll, suits, ranks and sums that the other tests leave open; promises 39 to 60. */
public final class ClauseCourtTest {
    private static final String REFUSED = "throws.UnsupportedOperationException";

    public static void main(String[] args) {
        augmentedNearness();
        augmentedClasses();
        voidOnesOfThisVisitation();
        generationsAndNearness();
        grantedBehind();
        generationsThatBearOthers();
        disclaimedStays();
        yearsOfJudgments();
        appealsOfOne();
        whoSues();
        ranksOfAll();
        ranksOfTheDead();
        crestsOfYoungerLines();
        wordsOfAllLands();
        pointsByRows();
        soundLands();
        Check.end();
    }

    private static Blazonry men(int count) {
        Blazonry land = new Blazonry();
        for (int p = 0; p < count; p++) {
            Lands.man(land, -1);
        }
        return land;
    }

    private static Blazonry line(int count) {
        Blazonry land = new Blazonry();
        for (int p = 0; p < count; p++) {
            Lands.man(land, p - 1);
        }
        return land;
    }

    /** Drawn with augmentations: a square of 25 points keeps arms apart, and the same one on both brings them near. */
    private static void augmentedNearness() {
        int[] away = {0, 25, 24, 20};
        int[] conflicts = {2, 1, 1, 0};
        int[] nearest = {0, 1, 0, 0};
        for (int w = 0; w < 4; w++) {
            int way = w;
            boolean isNear = away[way] < 24;
            Blazonry land = augmented(way);
            Check.due("distance in way " + way, away[way], () -> land.distance(0, 1));
            Check.typed(land, 3);
            Check.due("the row has none in way " + way, nearest[way], land::nearest);
            Check.due("conflicts in way " + way, conflicts[way], () -> land.conflicts(2, 0));
            Check.due("a grant in way " + way, conflicts[way] > 0 ? REFUSED : 2, () -> land.grant(2, 0));
            land.pass(60);
            Check.due("a suit in way " + way, isNear ? 0 : REFUSED, () -> land.sue(0, 1));
            Blazonry visited = augmented(way);
            visited.pass(60);
            Check.due("a visitation in way " + way, isNear ? 0 : 1, () -> visited.visit(0));
        }
    }

    /** 0 and 1 have arms in the land 0: the same ones, or 24 points apart, of which the square hides four. */
    private static Blazonry augmented(int way) {
        Blazonry land = men(3);
        Lands.grant(land, 0, 0, 3);
        if (way < 2) {
            Lands.assume(land, 1, 0, 3);
        } else {
            Lands.assume(land, 1, 0, 3, 68, 54, 1);
        }
        if (way == 1) {
            land.augment(0, 1, 56, 1);
        }
        if (way == 3) {
            land.augment(0, 5, 53, 2);
            land.augment(1, 5, 53, 2);
        }
        return land;
    }

    /** The class is the distance divided by 8, with augmentations. */
    private static void augmentedClasses() {
        int[] charges = {53, 56};
        for (int i = 0; i < 2; i++) {
            Blazonry land = men(2);
            Lands.grant(land, 0, 2, 3);
            Lands.assume(land, 1, 2, 3);
            land.augment(1, 3, charges[i], 1);
            int step = i;
            Check.due("distance", i == 0 ? 3 : 9, () -> land.distance(0, 1));
            land.sue(1, 0);
            Check.due("the class", 0, () -> land.precedent(2, step));
            Check.due("the other one", "throws.NoSuchElementException", () -> land.precedent(2, 1 - step));
        }
    }

    /** No other granted arms, not void: what this visitation found void ahead is no hindrance. */
    private static void voidOnesOfThisVisitation() {
        Blazonry land = line(3);
        int other = Lands.man(land, -1);
        Lands.assume(land, other, 0, 3);
        Lands.assume(land, 0, 0, 3);
        Check.due("the second ones", 1, () -> land.visit(0));
        Check.due("void", 'v', () -> land.cameBy(0));
        Check.due("granted", 'g', () -> land.cameBy(1));
    }

    /** Three generations do not help against granted arms that are near. */
    private static void generationsAndNearness() {
        Blazonry land = line(3);
        int other = Lands.man(land, -1);
        Lands.grant(land, other, 0, 3);
        Lands.assume(land, 0, 0, 3);
        Check.due("near", 0, () -> land.visit(0));
        Check.due("void", 'v', () -> land.cameBy(1));
        Check.due("one", 1, land::disclaimed);
    }

    /** Near granted arms of a higher number count, those of the same bearer too. */
    private static void grantedBehind() {
        Blazonry land = men(1);
        Lands.assume(land, 0, 0, 3);
        Check.due("no conflict with one's own", 1, () -> Lands.grant(land, 0, 0, 3, 61, 54, 1));
        land.pass(60);
        Check.due("near", 0, () -> land.visit(0));
        Check.due("void", 'v', () -> land.cameBy(0));
        Check.due("as it was", 'g', () -> land.cameBy(1));
    }

    /** If all three bear or bore them: one who bears others now does not, though he did when the next ones died. */
    private static void generationsThatBearOthers() {
        for (int who = 0; who < 3; who++) {
            Blazonry land = line(3);
            Lands.assume(land, 0, 0, 3);
            land.death(2);
            if (who == 0) {
                land.death(1);
            }
            if (who < 2) {
                Lands.grant(land, who, 1, 5);
            }
            Check.due("bore them as he died", 0, () -> land.borne(2));
            int granted = who == 2 ? 1 : 0;
            Check.due("the man " + who, granted, () -> land.visit(0));
        }
    }

    /** How many arms visitations found void: judgments and appeals change nothing of it. */
    private static void disclaimedStays() {
        Blazonry land = men(3);
        Lands.assume(land, 2, 1, 3);
        land.visit(1);
        Lands.assume(land, 0, 0, 3);
        Lands.assume(land, 1, 0, 3, 64, 54, 1);
        Check.due("one", 1, land::disclaimed);
        land.pass(60);
        land.sue(0, 1);
        Check.due("the younger ones", 'y', () -> land.judged(0));
        Check.due("one still", 1, land::disclaimed);
        land.appeal(0);
        Check.due("and still", 1, land::disclaimed);
        Check.due("the elder ones are back", 'u', () -> land.cameBy(1));
        Check.due("granted", 1, () -> land.visit(0));
        Check.due("void ones are passed by", 1, land::disclaimed);
    }

    /** Within less than 2 years of each judgment. */
    private static void yearsOfJudgments() {
        Blazonry land = men(4);
        for (int p = 0; p < 4; p++) {
            if (p % 2 == 0) {
                Lands.assume(land, p, p / 2, 3);
            } else {
                Lands.assume(land, p, p / 2, 3, 64, 54, 1);
            }
        }
        land.sue(0, 1);
        land.pass(5);
        land.sue(2, 3);
        land.pass(1);
        Check.due("six years", REFUSED, () -> land.appeal(0));
        Check.due("one year", 2, () -> land.appeal(1));
        Check.due("the elder ones of the first suit", 'e', () -> land.judged(0));
        Check.due("the other letter", 'y', () -> land.judged(2));
    }

    /** By an appeal a judgment stands no more: that one alone, of several in one land and class. */
    private static void appealsOfOne() {
        Blazonry land = men(4);
        for (int p = 0; p < 4; p++) {
            Lands.assume(land, p, 1, p == 0 ? new int[] {3} : new int[] {3, 64, 54, 1});
        }
        for (int p = 1; p < 4; p++) {
            land.sue(0, p);
        }
        Check.due("the last one", 2, () -> land.precedent(1, 1));
        Check.due("the one in the middle", 3, () -> land.appeal(1));
        boolean[] stand = {true, false, true, true};
        for (int j = 0; j < 4; j++) {
            int judgment = j;
            Check.due("judgment " + j, stand[j], () -> land.stands(judgment));
            Check.due("letter of " + j, j == 3 ? 'y' : 'e', () -> land.judged(judgment));
        }
        Check.due("the latest one", 3, () -> land.precedent(1, 1));
        Check.due("as they were", "vuvv", () -> "" + land.cameBy(0) + land.cameBy(2) + land.cameBy(1) + land.cameBy(3));
    }

    /** One who lives sues another one who does: women, and who bears with differences, on either side. */
    private static void whoSues() {
        // 2 is a son of 0 and bears the elder arms, 4 a daughter of a son of 1
        int[][] pairs = {{0, 1}, {1, 0}, {2, 1}, {1, 2}, {0, 4}, {4, 0}, {2, 4}, {4, 2}};
        for (int[] pair : pairs) {
            Blazonry land = men(2);
            Lands.grant(land, 0, 1, 3);
            Lands.assume(land, 1, 1, 3);
            int son = Lands.man(land, 0);
            int other = Lands.man(land, 1);
            int woman = Lands.woman(land, other);
            Check.due("differences", 1, () -> land.differences(woman));
            Check.due(pair[0] + " sues " + pair[1], 0, () -> land.sue(pair[0], pair[1]));
            Check.due("elder", 'e', () -> land.judged(0));
            Check.due("they lose", 'v', () -> land.cameBy(1));
            Check.due("she too", "throws.NoSuchElementException", () -> land.borne(woman));
            Check.due("he wins", 0, () -> land.borne(son));
        }
    }

    /** Those who told a crest and supporters show them: women too, and who bears no arms. */
    private static void ranksOfAll() {
        Blazonry land = new Blazonry();
        int woman = Lands.woman(land, -1);
        land.setRank(woman, 3);
        Check.due("none was told", 0, () -> land.setCrest(woman, 54));
        Check.due("none were told", false, () -> land.setSupporters(woman, 55, 56));
        Check.due("crest", 54, () -> land.crest(woman));
        Check.due("right", 55, () -> land.supporter(woman, true));
        Check.due("left", 56, () -> land.supporter(woman, false));
        int son = land.birth(-1, woman, true);
        land.setRank(son, 4);
        land.death(woman);
        Check.due("nothing by the mother", "throws.NoSuchElementException", () -> land.crest(son));
        Check.due("nor supporters", "throws.NoSuchElementException", () -> land.supporter(son, true));
    }

    /** A person has a rank, living or not; what was told stays told, and can be told of the dead. */
    private static void ranksOfTheDead() {
        Blazonry land = men(1);
        land.setRank(0, 2);
        land.setCrest(0, 51);
        land.setSupporters(0, 52, 53);
        land.abate(0, true);
        land.death(0);
        Check.due("crest", 51, () -> land.crest(0));
        Check.due("the rank before", 2, () -> land.setRank(0, 3));
        Check.due("right", 52, () -> land.supporter(0, true));
        Check.due("told before", true, () -> land.setSupporters(0, 57, 58));
        Check.due("left", 58, () -> land.supporter(0, false));
        Check.due("the crest before", 51, () -> land.setCrest(0, 57));
        Check.due("the new one", 57, () -> land.crest(0));
        Check.due("was abated", true, () -> land.abate(0, false));
        Check.due("is not any more", false, () -> land.abate(0, true));
    }

    /** The point is 16 times y plus x: the lower half weighs more than the right one. */
    private static void pointsByRows() {
        Blazonry land = men(1);
        Lands.grant(land, 0, 0, 12, 1, 16, 2);
        Check.due("1 to 128, and 129 to 256 twice", 57536L, land::allPoints);
        Lands.grant(land, 0, 0, 11, 1, 16, 2);
        Check.due("and twice the columns 0 to 7, and 8 to 15 twice", 57536L + 2 * 49856L, land::allPoints);
    }

    /** Of an heir who bears his father's arms, whatever differences are on them. */
    private static void crestsOfYoungerLines() {
        Blazonry land = line(2);
        int younger = Lands.man(land, 0);
        int nephew = Lands.man(land, younger);
        int second = Lands.man(land, younger);
        Lands.grant(land, 0, 0, 3);
        land.setCrest(younger, 55);
        land.setRank(nephew, 1);
        land.setRank(second, 1);
        Check.due("the father lives", "throws.NoSuchElementException", () -> land.crest(nephew));
        land.death(younger);
        Check.due("he has a difference", 2, () -> land.difference(nephew, 0));
        Check.due("the heir of the younger son", 55, () -> land.crest(nephew));
        Check.due("his brother", "throws.NoSuchElementException", () -> land.crest(second));
    }

    /** How many arms have a word in their blazon, in whatever land. */
    private static void wordsOfAllLands() {
        Blazonry land = men(1);
        for (int of = 0; of < 4; of++) {
            Lands.grant(land, 0, of, 3, 61, 51 + of, 31);
            int count = of + 1;
            Check.due("the number", count, () -> land.withWord(61));
            Check.due("reaching back as it was typed", count, () -> land.withWord(31));
            Check.due("the charge", 1, () -> land.withWord(50 + count));
        }
    }

    /** All this holds in any land: of arms that are void, between daughters, quartered, and as they were before. */
    private static void soundLands() {
        Check.due("empty", true, () -> new Blazonry().isSound());
        Check.due("a family", true, () -> Lands.FAMILY.make().isSound());
        Check.due("full", true, () -> Lands.FULL.make().isSound());
        Blazonry land = Lands.FULL.make();
        for (int p = 0; p < 40; p += 3) {
            land.death(p);
        }
        Check.due("with the dead", true, land::isSound);
        land.visit(0);
        Check.due("disclaimed", 4, land::disclaimed);
        Check.due("after a visitation", true, land::isSound);
    }
}
