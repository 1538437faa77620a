import java.util.Arrays;
import java.util.NoSuchElementException;

/** The bounds that the document names for promises 1 to 4 and 9, and in the section Words. */
public final class EdgeWordsTest {
    private static final int[] TINCTURES = {1, 2, 3, 4, 5, 6, 7, 8};
    private static final int[] PARTINGS = {11, 12, 13, 14, 15};
    private static final int[] STARTS = {21, 22, 23, 24, 25, 26, 27, 28, 39, 61, 62, 63, 64, 65, 66, 67, 68, 69};
    private static final int[] CHARGES = {51, 52, 53, 54, 55, 56, 57, 58};
    private static final int[] NUMBERS = {61, 62, 63, 64, 65, 66, 67, 68, 69};
    private static final int[] LINES = {9, 10};
    private static final int[] ATTITUDES = {45, 46};
    private static final int[] PLACES = {41, 42, 43, 44};
    private static final int[] BACK = {31, 32};
    private static final int[] ON = {36};

    private static final Twin.Maker FULL_ROW = () -> Check.row(Lands.TWENTY_FOUR);
    private static final Twin.Maker ROW_OF_23 = () -> Check.row(Arrays.copyOf(Lands.TWENTY_FOUR, 23));
    private static final Twin.Maker RIGHT = () -> Check.row(11, 1, 16, 3, 22, 35, 36, 61, 51, 31);
    private static final Twin.Maker WRONG = () -> Check.row(3, 22, 1, 36);

    public static void main(String[] args) {
        newObject();
        leastAndGreatestWord();
        lengthOfRow();
        erasing();
        wrongWhere();
        fieldByPlace();
        ordinaryByPlace();
        chargesByPlace();
        fourGroups();
        reachingBack();
        meantByIndex();
        meantByPlace();
        refusals();
        Check.end();
    }

    /** Creates a land without persons and arms, with an empty row of words, in the year 0. */
    private static void newObject() {
        Check.due("no persons", 0, () -> new Blazonry().persons());
        Check.due("no arms", 0, () -> new Blazonry().arms());
        Check.due("an empty row", 0, () -> new Blazonry().erase());
        Check.due("wrong at its end", 0, () -> new Blazonry().wrongAt());
        Check.due("the year", 0, () -> new Blazonry().year());
        Check.due("no judgment", "throws.NoSuchElementException", () -> new Blazonry().precedent(0, 0));
        Check.due("nothing disclaimed", 0, () -> new Blazonry().disclaimed());
        Blazonry one = new Blazonry();
        one.birth(-1, -1, true);
        one.type(3);
        one.pass(100);
        one.grant(0, 0);
        Check.due("two objects have nothing in common", 0, () -> new Blazonry().persons() + new Blazonry().year());
    }

    /** word: the word, 0 to 99. */
    private static void leastAndGreatestWord() {
        Check.due("the least", 1, () -> new Blazonry().type(0));
        Check.due("the greatest", 1, () -> new Blazonry().type(99));
        for (int word : new int[] {-1, 100, Integer.MIN_VALUE, Integer.MAX_VALUE}) {
            Twin.refused("type " + word, IllegalArgumentException.class, Lands.EMPTY, land -> land.type(word));
            Twin.refused("type " + word, IllegalArgumentException.class, ROW_OF_23, land -> land.type(word));
            Twin.refused("out of range first", IllegalArgumentException.class, FULL_ROW, land -> land.type(word));
        }
        for (int word = 0; word < 100; word++) {
            int typed = word;
            Check.due("each word", 3, () -> Check.row(3, 22).type(typed));
        }
    }

    /** A blazon is a row of 1 to 24 words; type throws IllegalStateException if it has 24. */
    private static void lengthOfRow() {
        wrong(0);
        for (int tincture : TINCTURES) {
            wrong(-1, tincture);
        }
        wrong(-1, Lands.TWENTY_FOUR);
        Check.due("the 24th", 24, () -> ROW_OF_23.make().type(5));
        for (int word : new int[] {0, 1, 22, 99}) {
            Twin.refused("a 25th", IllegalStateException.class, FULL_ROW, land -> land.type(word));
        }
        int[] lacking = Lands.TWENTY_FOUR.clone();
        lacking[21] = 61;
        lacking[22] = 51;
        lacking[23] = 45;
        wrong(24, lacking);
        int[] lastWrong = Lands.TWENTY_FOUR.clone();
        lastWrong[23] = 0;
        wrong(23, lastWrong);
        Blazonry counted = new Blazonry();
        for (int count = 1; count <= 24; count++) {
            int want = count;
            Check.due("how many the row has", want, () -> counted.type(99));
        }
    }

    /** Takes all words out of the row; returns how many there were. */
    private static void erasing() {
        Check.due("of none", 0, () -> new Blazonry().erase());
        Check.due("of one", 1, () -> Check.row(0).erase());
        Check.due("of 23", 23, () -> ROW_OF_23.make().erase());
        Check.due("of 24", 24, () -> FULL_ROW.make().erase());
        Blazonry land = FULL_ROW.make();
        land.erase();
        Check.due("none are left", 0, land::erase);
        Check.due("as an empty row", 0, land::wrongAt);
        Check.due("meant no more", "throws.UnsupportedOperationException", () -> land.meant(0));
        Check.due("there is room again", 1, () -> land.type(3));
        Check.due("a blazon", -1, land::wrongAt);
        Check.due("its own meaning", 3, () -> land.meant(0));
        Check.due("nothing of the old one", "throws.NoSuchElementException", () -> land.meant(2));
        Check.due("nothing of the old one", "throws.NoSuchElementException", () -> land.drawn(0, true));
        Check.due("nothing of the old one", 256, () -> land.points(2, 3));
    }

    private static void wrong(int want, int... words) {
        Check.due("wrongAt of " + Arrays.toString(words), want, () -> Check.row(words).wrongAt());
    }

    /** The index of the first word that does not fit, or how many words it has if something lacks. */
    private static void wrongWhere() {
        wrong(0, 0);
        wrong(0, 0, 3);
        wrong(0, 99, 99);
        wrong(1, 3, 0);
        wrong(1, 3, 0, 0);
        wrong(1, 3, 99, 22, 1);
        wrong(1, 11);
        wrong(2, 11, 9);
        wrong(2, 3, 22);
        wrong(4, 3, 22, 1, 36);
        wrong(4, 3, 22, 1, 36, 0);
        Blazonry land = Check.row(3, 22);
        Check.due("something lacks", 2, land::wrongAt);
        land.type(1);
        Check.due("nothing lacks", -1, land::wrongAt);
        land.type(1);
        Check.due("too much", 3, land::wrongAt);
        land.type(1);
        Check.due("the first one that does not fit", 3, land::wrongAt);
    }

    /** Behind these words just those of some kinds fit; every other word from 0 to 99 is wrong there. */
    private static void next(int[] ahead, int[]... kinds) {
        boolean[] fits = new boolean[100];
        for (int[] kind : kinds) {
            for (int word : kind) {
                fits[word] = true;
            }
        }
        for (int word = 0; word < 100; word++) {
            int[] words = Arrays.copyOf(ahead, ahead.length + 1);
            words[ahead.length] = word;
            String got = Check.told(() -> Check.row(words).wrongAt() == words.length - 1);
            Check.same("wrong there: " + Arrays.toString(words), String.valueOf(!fits[word]), got);
        }
    }

    private static int[] of(int... words) {
        return words;
    }

    /** A field is a tincture, or a parting, perhaps a line, which 14 and 15 have not, a tincture, 16 and a tincture. */
    private static void fieldByPlace() {
        next(of(), TINCTURES, PARTINGS);
        for (int parting : PARTINGS) {
            if (parting < 14) {
                next(of(parting), LINES, TINCTURES);
                next(of(parting, 9), TINCTURES);
                next(of(parting, 10), TINCTURES);
                next(of(parting, 10, 1), of(16));
            } else {
                next(of(parting), TINCTURES);
            }
            next(of(parting, 1), of(16));
            next(of(parting, 1, 16), TINCTURES, BACK);
            next(of(parting, 1, 16, 8), STARTS);
            next(of(parting, 1, 16, 31), STARTS);
            next(of(parting, 1, 16, 32), STARTS);
        }
        for (int tincture : TINCTURES) {
            next(of(tincture), STARTS);
        }
    }

    /**
     * A group is an ordinary, perhaps a line, which 25, 26 and 28 have not, a tincture, and perhaps 36, a number, a
     * charge, perhaps an attitude, and a tincture.
     */
    private static void ordinaryByPlace() {
        int[] parted = {33, 35};
        for (int ordinary = 21; ordinary <= 28; ordinary++) {
            boolean hasLine = ordinary != 25 && ordinary != 26 && ordinary != 28;
            int[] lines = hasLine ? LINES : of();
            next(of(3, ordinary), lines, TINCTURES, BACK);
            next(of(11, 1, 16, 3, ordinary), lines, TINCTURES, BACK, parted);
            next(of(3, ordinary, 1), ON, STARTS);
            next(of(11, 1, 16, 3, ordinary, 35), ON, STARTS);
            next(of(11, 1, 16, 3, ordinary, 31), ON, STARTS);
            if (hasLine) {
                next(of(3, ordinary, 9), TINCTURES, BACK);
                next(of(11, 1, 16, 3, ordinary, 10), TINCTURES, BACK, parted);
                next(of(3, ordinary, 10, 1), ON, STARTS);
            }
            next(of(3, ordinary, 1, 36), NUMBERS);
            next(of(3, ordinary, 1, 36, 61), CHARGES);
            next(of(3, ordinary, 1, 36, 69, 58), ATTITUDES, TINCTURES, BACK);
            next(of(11, 1, 16, 3, ordinary, 1, 36, 69, 58), ATTITUDES, TINCTURES, BACK, of(33));
            next(of(11, 1, 16, 3, ordinary, 35, 36, 69, 58, 46), TINCTURES, BACK, of(33));
            next(of(3, ordinary, 1, 36, 61, 51, 45), TINCTURES, BACK);
            next(of(3, ordinary, 1, 36, 61, 51, 45, 2), STARTS);
        }
    }

    /** Or a number, a charge, perhaps an attitude, perhaps a place, and a tincture; or 39, a charge, perhaps .. */
    private static void chargesByPlace() {
        int[] parted = {33, 35};
        for (int number : NUMBERS) {
            next(of(3, number), CHARGES);
            next(of(3, number, 51), ATTITUDES, PLACES, TINCTURES, BACK);
        }
        next(of(11, 1, 16, 3, 61, 58), ATTITUDES, PLACES, TINCTURES, BACK, parted);
        for (int attitude : ATTITUDES) {
            next(of(3, 61, 51, attitude), PLACES, TINCTURES, BACK);
            next(of(3, 39, 51, attitude), TINCTURES, BACK);
            next(of(11, 1, 16, 3, 39, 51, attitude), TINCTURES, BACK, parted);
        }
        for (int place : PLACES) {
            next(of(3, 61, 51, place), TINCTURES, BACK);
            next(of(3, 61, 51, 45, place), TINCTURES, BACK);
            next(of(11, 1, 16, 3, 61, 51, place), TINCTURES, BACK, parted);
            next(of(3, 61, 51, place, 1), STARTS);
        }
        next(of(3, 61, 51, 1), STARTS);
        next(of(3, 39), CHARGES);
        next(of(3, 39, 51), ATTITUDES, TINCTURES, BACK);
        next(of(11, 1, 16, 3, 39, 51), ATTITUDES, TINCTURES, BACK, parted);
        next(of(3, 39, 51, 1), STARTS);
    }

    /** A blazon is a field, then at most 4 groups. */
    private static void fourGroups() {
        int[][] groups = {of(22, 1), of(25, 1), of(61, 51, 1), of(39, 51, 1)};
        for (int[] group : groups) {
            int[] words = of(3);
            for (int g = 1; g <= 4; g++) {
                int from = words.length;
                words = Arrays.copyOf(words, from + group.length);
                System.arraycopy(group, 0, words, from, group.length);
                wrong(-1, words);
                int[] on = group.length == 2 ? ON : of();
                next(words, on, g < 4 ? STARTS : of());
            }
        }
        next(of(3, 22, 1, 22, 1, 22, 1, 22, 1, 36, 61, 51, 2));
        wrong(5, 3, 22, 1, 61, 51, 22, 1);
    }

    /** Behind the first tincture of the field 31 and 32, behind the second one 33, too; 35 is not behind 36. */
    private static void reachingBack() {
        for (int word : new int[] {31, 32, 33, 35}) {
            wrong(0, word);
            wrong(1, 11, word);
            wrong(2, 11, 9, word);
            wrong(word < 33 ? -1 : 3, 11, 1, 16, word);
            wrong(word < 33 ? -1 : 2, 3, 22, word);
            wrong(word < 33 ? -1 : 6, 3, 22, 1, 36, 61, 51, word);
            wrong(word < 33 ? -1 : 3, 3, 61, 51, word);
            wrong(-1, 11, 1, 16, 3, 22, word);
            wrong(word < 35 ? -1 : 9, 11, 1, 16, 3, 22, 1, 36, 61, 51, word);
            wrong(word < 35 ? -1 : 9, 11, 1, 16, 3, 22, 35, 36, 61, 51, word);
        }
        wrong(2, 3, 22, 34);
        wrong(5, 11, 1, 16, 3, 22, 34);
    }

    private static void meant(Object want, int index, int... words) {
        Check.due("meant " + index + " of " + Arrays.toString(words), want, () -> Check.row(words).meant(index));
    }

    /** index: the index of the word; throws NoSuchElementException if there is no such word. */
    private static void meantByIndex() {
        for (int tincture : TINCTURES) {
            meant(tincture, 0, tincture);
        }
        meant(5, 23, Lands.TWENTY_FOUR);
        meant(1, 2, Lands.TWENTY_FOUR);
        for (int index : new int[] {Integer.MIN_VALUE, -1, 24, 25, Integer.MAX_VALUE}) {
            Twin.refused("meant", NoSuchElementException.class, FULL_ROW, land -> land.meant(index));
        }
        Twin.refused("behind the only word", NoSuchElementException.class, () -> Check.row(3), land -> land.meant(1));
        int[] others = {0, 1, 3, 5, 6, 8, 9, 10, 11, 13, 14, 16, 17, 18, 19, 21, 22};
        for (int index : others) {
            meant("throws.NoSuchElementException", index, Lands.TWENTY_FOUR);
        }
        int[] tinctures = {2, 4, 7, 12, 15, 20, 23};
        int[] wants = {1, 2, 3, 1, 4, 2, 5};
        for (int i = 0; i < tinctures.length; i++) {
            meant(wants[i], tinctures[i], Lands.TWENTY_FOUR);
        }
    }

    /** 31 stands for that which was told last, as it was meant, 32 for the first one of the field, 33 for the second. */
    private static void meantByPlace() {
        meant(1, 3, 11, 1, 16, 31);
        meant(8, 3, 11, 8, 16, 32);
        meant(7, 2, 7, 22, 31);
        meant(7, 2, 7, 22, 32);
        meant(4, 5, 11, 1, 16, 4, 22, 31);
        meant(1, 5, 11, 1, 16, 4, 22, 32);
        meant(4, 5, 11, 1, 16, 4, 22, 33);
        meant(1, 5, 11, 1, 16, 31, 22, 33);
        meant(35, 5, 11, 1, 16, 4, 22, 35);
        meant(35, 7, 11, 1, 16, 4, 22, 35, 22, 31);
        meant(35, 9, 11, 1, 16, 4, 22, 35, 22, 31, 22, 31);
        meant(1, 9, 11, 1, 16, 4, 22, 35, 36, 61, 51, 31);
        meant(1, 11, 11, 1, 16, 4, 22, 35, 22, 31, 36, 61, 51, 31);
        meant(1, 11, 11, 1, 16, 4, 22, 35, 36, 61, 51, 31, 22, 31);
        meant(6, 11, 11, 1, 16, 4, 22, 35, 36, 61, 51, 6, 22, 31);
        meant(6, 9, 11, 1, 16, 4, 22, 6, 36, 61, 51, 31);
        meant(1, 9, 11, 1, 16, 4, 22, 6, 36, 61, 51, 32);
        meant(4, 9, 11, 1, 16, 4, 22, 6, 36, 61, 51, 33);
        meant("throws.NoSuchElementException", 6, 11, 1, 16, 4, 22, 33, 24, 31);
        meant(4, 7, 11, 1, 16, 4, 22, 33, 24, 31);
        meant(35, 6, 11, 1, 16, 4, 39, 51, 35);
        meant(35, 9, 11, 1, 16, 4, 39, 51, 35, 61, 51, 31);
    }

    /** What is asked of a row throws UnsupportedOperationException if it is wrong, also if there is no such word. */
    private static void refusals() {
        Twin.Maker[] wrongOnes = {Lands.EMPTY, WRONG};
        for (Twin.Maker wrong : wrongOnes) {
            for (int index : new int[] {Integer.MIN_VALUE, -1, 0, 2, 4, 24}) {
                Twin.refused("meant", UnsupportedOperationException.class, wrong, land -> land.meant(index));
            }
        }
        for (int index : new int[] {-1, 0, 2, 4, 6, 7, 8, 10}) {
            Twin.refused("no tincture", NoSuchElementException.class, RIGHT, land -> land.meant(index));
        }
    }
}
