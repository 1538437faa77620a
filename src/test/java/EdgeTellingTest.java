import java.util.Arrays;
import java.util.NoSuchElementException;

/** The bounds that the document names for promises 10 to 13, and in the sections Fewest words and Traditions. */
public final class EdgeTellingTest {
    private static final Twin.Maker FULL_ROW = () -> Check.row(Lands.TWENTY_FOUR);
    private static final Twin.Maker ONE_WORD = () -> Check.row(8);
    private static final Twin.Maker LINED = () -> Check.row(12, 9, 8, 16, 3, 39, 52, 45, 8);
    private static final Twin.Maker WRONG = () -> Check.row(12, 9, 8, 16);
    private static final int[] FAR = {Integer.MIN_VALUE, -1, 24, 25, Integer.MAX_VALUE};

    public static void main(String[] args) {
        lengths();
        fieldAlone();
        groupsLeftOut();
        linesLeftOut();
        whatIsOnLeftOut();
        numbersAsDrawn();
        ownWords();
        leastOfAsMany();
        traditions();
        losses();
        indices();
        refusals();
        Check.end();
    }

    private static void told(String want, int... words) {
        Check.same("fewest of " + Arrays.toString(words), want, Check.fewestOf(words).toString());
        Blazonry land = Check.row(words);
        Check.due("fewest", Check.fewestOf(words).size(), land::fewest);
        Check.due("behind the last", "throws.NoSuchElementException", () -> land.fewestAt(land.fewest()));
        Check.due("ahead of the first", "throws.NoSuchElementException", () -> land.fewestAt(-1));
    }

    private static void told(int... words) {
        told(Arrays.toString(words), words);
    }

    /** From one word to 24 words. */
    private static void lengths() {
        for (int tincture = 1; tincture <= 8; tincture++) {
            told(tincture);
        }
        told(Lands.TWENTY_FOUR);
        told(11, 1, 16, 3);
        told("[5]", 15, 5, 16, 31);
        told("[5]", 5, 22, 31, 36, 61, 51, 32, 39, 54, 32, 28, 5, 69, 58, 46, 44, 5);
    }

    /** The field as told, with its line or without, or one of its two tinctures alone. */
    private static void fieldAlone() {
        for (int parting = 11; parting <= 15; parting++) {
            told(parting, 1, 16, 3);
            told("[1]", parting, 1, 16, 1);
        }
        for (int parting = 11; parting <= 13; parting++) {
            told(parting, 9, 1, 16, 3);
            told(parting, 10, 3, 16, 1);
            told("[8]", parting, 10, 8, 16, 31);
        }
        // no tincture is hidden, then the first one alone
        told("[3, 28, 1]", 14, 3, 16, 3, 28, 1);
        told("[3, 39, 56, 5, 24, 5, 22, 9, 5]", 12, 1, 16, 3, 39, 56, 5, 24, 5, 22, 9, 5);
        told("[1, 39, 56, 5, 24, 5, 22, 9, 5]", 12, 3, 16, 1, 39, 56, 5, 24, 5, 22, 9, 5);
        told(12, 1, 16, 3, 39, 56, 5, 24, 5, 22, 5);
        told("[1, 39, 56, 3]", 1, 39, 56, 3);
        // changed for the field, not for what is there, so that once is as four times
        told("[12, 10, 1, 16, 3, 21, 35]", 12, 10, 1, 16, 3, 21, 35, 21, 35, 21, 35, 21, 35);
        told(12, 10, 1, 16, 3, 21, 35);
        // counterchanged groups need a parted field
        told("[11, 1, 16, 3, 28, 35]", 11, 1, 16, 3, 28, 35);
        told("[1]", 11, 1, 16, 1, 28, 35);
    }

    /** Each group left out or not. */
    private static void groupsLeftOut() {
        told("[3]", 3, 22, 3, 23, 3, 24, 3, 25, 3);
        told(3, 24, 1, 22, 1, 21, 1, 26, 1);
        told("[3, 24, 1, 22, 1, 21, 1]", 3, 24, 1, 22, 1, 21, 1, 25, 1);
        told("[3, 24, 1, 22, 1, 21, 1]", 3, 25, 1, 24, 1, 22, 1, 21, 1);
        told("[3, 25, 2]", 3, 25, 1, 25, 4, 25, 5, 25, 2);
        told("[3, 22, 1]", 3, 22, 1, 61, 56, 3);
        told("[3, 61, 51, 1]", 3, 61, 51, 1, 61, 51, 43, 3);
        // a group that is not seen keeps a block, and so is told
        told(3, 61, 51, 3, 61, 51, 1);
        told(3, 25, 3, 39, 56, 1);
    }

    /** With its line or without: where the line is not seen, and where it is. */
    private static void linesLeftOut() {
        for (int line = 9; line <= 10; line++) {
            told(3, 21, line, 1);
            told(3, 22, line, 1);
            told(3, 23, line, 1);
            told(3, 24, line, 1);
            told(3, 27, line, 1);
        }
        told("[3, 24, 1, 24, 9, 5]", 3, 24, 10, 1, 24, 1, 24, 9, 5);
        told("[3, 24, 9, 5]", 3, 24, 10, 5, 24, 9, 5);
        told("[3, 24, 1, 22, 10, 5]", 3, 24, 9, 1, 22, 10, 5);
        told(3, 24, 10, 1, 22, 10, 5);
        told("[3, 24, 1, 36, 61, 51, 2, 22, 10, 5]", 3, 24, 9, 1, 36, 61, 51, 2, 22, 10, 5);
        told("[3, 24, 1, 22, 10, 5]", 3, 24, 9, 1, 36, 61, 51, 1, 22, 10, 5);
        told("[11, 1, 16, 3, 21, 5]", 11, 9, 1, 16, 3, 21, 5);
    }

    /** With what is on it or without. */
    private static void whatIsOnLeftOut() {
        told(3, 22, 1, 36, 61, 51, 5);
        told("[3, 22, 1]", 3, 22, 1, 36, 61, 51, 1);
        told("[3, 24, 1, 28, 2]", 3, 24, 1, 36, 61, 54, 5, 28, 2);
        told(3, 24, 1, 36, 61, 56, 5, 28, 2);
        told("[3, 22, 9, 1]", 3, 22, 9, 1, 36, 61, 54, 31);
        told("[3, 24, 5]", 3, 24, 9, 1, 36, 61, 51, 2, 24, 1, 24, 5);
    }

    /** Numbers as many as are drawn, if any; 39 and places as told. */
    private static void numbersAsDrawn() {
        for (int number = 61; number <= 69; number++) {
            told(3, number, 51, 1);
            told(number < 64 ? "[3, 24, 1, 36, " + number + ", 51, 5]" : "[3, 24, 1, 36, 64, 51, 5]",
                    3, 24, 1, 36, number, 51, 5);
            told(number < 68 ? "[3, " + number + ", 51, 42, 1]" : "[3, 68, 51, 42, 1]", 3, number, 51, 42, 1);
        }
        told(3, 39, 51, 1);
        told("[3, 24, 1, 39, 51, 1]", 3, 24, 1, 39, 51, 1);
        told("[3, 39, 54, 1]", 3, 39, 54, 1, 69, 51, 1);
        // none is drawn of the second group: left out as a rule, but here told instead of the first one
        told("[3, 68, 56, 41, 1]", 3, 68, 56, 45, 41, 1, 68, 56, 41, 1);
    }

    /** All tinctures told by their own words or 35. */
    private static void ownWords() {
        told("[11, 1, 16, 3, 22, 3, 36, 61, 51, 1, 24, 3]", 11, 1, 16, 3, 22, 31, 36, 61, 51, 32, 24, 33);
        told("[11, 1, 16, 3, 22, 35, 36, 64, 51, 1]", 11, 1, 16, 3, 22, 35, 36, 69, 51, 31);
        told("[11, 1, 16, 3, 22, 35, 24, 35]", 11, 1, 16, 3, 22, 35, 24, 31);
        told("[3, 22, 8]", 3, 22, 8, 24, 32);
    }

    /** Of those with the fewest words it is the least one, compared word by word. */
    private static void leastOfAsMany() {
        told("[3, 22, 1, 36, 61, 51, 45, 5]", 3, 22, 1, 36, 61, 51, 45, 5, 22, 1, 36, 61, 51, 46, 5);
        told("[3, 22, 1, 36, 61, 51, 45, 5]", 3, 22, 1, 36, 61, 51, 46, 5, 22, 1, 36, 61, 51, 45, 5);
        told("[3, 61, 56, 41, 1, 22, 5]", 3, 61, 56, 41, 1, 22, 5);
        told("[3, 22, 1]", 3, 22, 1, 22, 31, 22, 31, 22, 31);
    }

    private static void put(String want, int losses, int tradition, int... words) {
        Check.same("put into " + tradition + " " + Arrays.toString(words), want,
                Check.translatedOf(tradition, words).toString());
        Check.due("losses", losses, () -> Check.row(words).losses(tradition));
    }

    /** 0 has all words; 1 has no furs; 2 no lines; 3 no attitudes, and 39 becomes 69. */
    private static void traditions() {
        for (int tradition = 0; tradition < 4; tradition++) {
            put("[3]", 0, tradition, 3);
            put("[2, 22, 1, 36, 69, 58, 32]", 0, tradition, 2, 22, 1, 36, 69, 58, 32);
            put("[7, 69, 58, 44, 1]", 0, tradition, 7, 69, 58, 44, 1);
        }
        for (int tincture = 1; tincture <= 7; tincture++) {
            put("[" + tincture + "]", 0, 1, tincture);
        }
        put("[8]", 0, 0, 8);
        put("[2]", 1, 1, 8);
        put("[8]", 0, 2, 8);
        put("[8]", 0, 3, 8);
        for (int line = 9; line <= 10; line++) {
            put("[11, 1, 16, 3]", 1, 2, 11, line, 1, 16, 3);
            put("[11, " + line + ", 1, 16, 3]", 0, 1, 11, line, 1, 16, 3);
            put("[11, " + line + ", 1, 16, 3]", 0, 3, 11, line, 1, 16, 3);
        }
        for (int attitude = 45; attitude <= 46; attitude++) {
            put("[3, 61, 51, 1]", 1, 3, 3, 61, 51, attitude, 1);
            put("[3, 61, 51, " + attitude + ", 1]", 0, 2, 3, 61, 51, attitude, 1);
        }
        put("[3, 69, 51, 1]", 1, 3, 3, 39, 51, 1);
        put("[3, 39, 51, 1]", 0, 2, 3, 39, 51, 1);
        put("[3, 69, 51, 1]", 2, 3, 3, 39, 51, 46, 1);
    }

    /** Each such word is a loss, in a row of 24 words too. */
    private static void losses() {
        int[] wants = {0, 0, 4, 2};
        for (int tradition = 0; tradition < 4; tradition++) {
            int of = tradition;
            Check.due("losses", wants[tradition], () -> FULL_ROW.make().losses(of));
        }
        put("[11, 2, 16, 2, 21, 2, 36, 61, 51, 2, 22, 2, 36, 61, 51, 2, 23, 2, 36, 61, 51, 31]", 7, 1,
                11, 8, 16, 8, 21, 8, 36, 61, 51, 8, 22, 8, 36, 61, 51, 8, 23, 8, 36, 61, 51, 31);
        put("[3, 69, 51, 1, 69, 51, 1, 69, 51, 1, 69, 51, 1]", 8, 3,
                3, 39, 51, 45, 1, 39, 51, 46, 1, 39, 51, 45, 1, 39, 51, 46, 1);
    }

    /** index, from 0; NoSuchElementException if there is no such word. */
    private static void indices() {
        Check.due("the first of 24", 11, () -> FULL_ROW.make().fewestAt(0));
        Check.due("the 24th", 5, () -> FULL_ROW.make().fewestAt(23));
        Check.due("the first of 24", 11, () -> FULL_ROW.make().translated(0, 0));
        Check.due("the 24th", 5, () -> FULL_ROW.make().translated(0, 23));
        Check.due("the last of those left", 5, () -> FULL_ROW.make().translated(2, 19));
        Check.due("the last of those left", 5, () -> FULL_ROW.make().translated(3, 21));
        for (int index : FAR) {
            Twin.refused("fewestAt", NoSuchElementException.class, FULL_ROW, land -> land.fewestAt(index));
            Twin.refused("translated", NoSuchElementException.class, FULL_ROW, land -> land.translated(0, index));
            Twin.refused("no tradition first", IllegalArgumentException.class, FULL_ROW,
                    land -> land.translated(4, index));
        }
        Twin.refused("behind the last", NoSuchElementException.class, FULL_ROW, land -> land.translated(2, 20));
        Twin.refused("behind the last", NoSuchElementException.class, FULL_ROW, land -> land.translated(3, 22));
        Check.due("the only word", 8, () -> ONE_WORD.make().fewestAt(0));
        Check.due("the only word", 2, () -> ONE_WORD.make().translated(1, 0));
        Twin.refused("behind it", NoSuchElementException.class, ONE_WORD, land -> land.fewestAt(1));
        Twin.refused("behind it", NoSuchElementException.class, ONE_WORD, land -> land.translated(1, 1));
        Check.due("the last", 8, () -> LINED.make().translated(2, 7));
        Twin.refused("in the row alone", NoSuchElementException.class, LINED, land -> land.translated(2, 8));
        // fewer words are told than the row has
        Twin.Maker shorter = () -> Check.row(15, 1, 16, 31);
        Check.due("the only one", 1, () -> shorter.make().fewestAt(0));
        Twin.refused("in the row alone", NoSuchElementException.class, shorter, land -> land.fewestAt(1));
        Twin.refused("in the row alone", NoSuchElementException.class, shorter, land -> land.fewestAt(3));
    }

    /** A wrong row, the empty one too; a tradition out of 0 to 3 comes first. */
    private static void refusals() {
        for (int tradition : new int[] {Integer.MIN_VALUE, -1, 4, Integer.MAX_VALUE}) {
            Twin.refused("losses", IllegalArgumentException.class, LINED, land -> land.losses(tradition));
            Twin.refused("translated", IllegalArgumentException.class, LINED, land -> land.translated(tradition, 0));
            Twin.refused("losses first", IllegalArgumentException.class, WRONG, land -> land.losses(tradition));
            Twin.refused("first", IllegalArgumentException.class, WRONG, land -> land.translated(tradition, -1));
        }
        for (Twin.Maker wrong : new Twin.Maker[] {Lands.EMPTY, WRONG}) {
            Twin.refused("fewest", UnsupportedOperationException.class, wrong, Blazonry::fewest);
            for (int number : new int[] {-1, 0, 3, 24}) {
                Twin.refused("fewestAt", UnsupportedOperationException.class, wrong, land -> land.fewestAt(number));
                Twin.refused("translated", UnsupportedOperationException.class, wrong,
                        land -> land.translated(3, number));
            }
            for (int tradition = 0; tradition < 4; tradition++) {
                int of = tradition;
                Twin.refused("losses", UnsupportedOperationException.class, wrong, land -> land.losses(of));
            }
        }
    }
}
