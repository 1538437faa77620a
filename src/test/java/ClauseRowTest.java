import java.util.Arrays;
import java.util.NoSuchElementException;

/** Sentences on the row of words that the other tests leave open; promises 2 to 13. */
public final class ClauseRowTest {
    public static void main(String[] args) {
        wordByWord();
        rowStays();
        strewnAttitudes();
        counterchangedOverLines();
        toldAttitudes();
        counterchangedNeedsParting();
        numbersOfTheRow();
        Check.end();
    }

    private static void told(String want, int... words) {
        Check.same("fewest of " + Arrays.toString(words), want, Check.fewestOf(words).toString());
    }

    private static void told(int... words) {
        told(Arrays.toString(words), words);
    }

    /** Each word that is typed counts from then on, whatever was asked of the row ahead of it. */
    private static void wordByWord() {
        Blazonry land = Check.row(3);
        row(land, 256, 0, 1, 3);
        Check.due("a blazon", -1, land::wrongAt);
        land.type(61);
        Check.due("lacks a charge", 2, land::wrongAt);
        Check.due("is wrong", "throws.UnsupportedOperationException", () -> land.point(1, 0));
        land.type(51);
        land.type(4);
        row(land, 251, 1, 4, 4);
        Check.due("one is drawn", 1, () -> land.drawn(0, false));
        land.type(22);
        land.type(10);
        land.type(31);
        // a fess has 64 points, with any line
        row(land, 187, 2, 7, 4);
        Check.due("what is meant", 4, () -> land.meant(6));
        Check.due("lost", 1, () -> land.losses(2));
        land.type(28);
        land.type(32);
        Check.due("a bordure of the field", 3, () -> land.point(1, 0));
        Check.due("erased", 9, land::erase);
        Check.due("nothing is left", 0, land::wrongAt);
        land.type(5);
        row(land, 0, 0, 1, 5);
    }

    private static void row(Blazonry land, int field, int breaks, int fewest, int above) {
        Check.due("points of the field", field, () -> land.points(2, 3));
        Check.due("breaks", breaks, land::breaks);
        Check.due("fewest words", fewest, land::fewest);
        Check.due("the point 1, 0", above, () -> land.point(1, 0));
    }

    /** Of all calls, only type, erase, grant and assume change the row. */
    private static void rowStays() {
        Blazonry land = Lands.FAMILY.make();
        String before = words(land);
        land.birth(0, 1, true);
        land.pass(1);
        land.sue(0, 5);
        Check.due("an abeyance ends", 2, () -> land.call(3, 8));
        land.death(8);
        land.marry(2, 9);
        land.visit(0);
        land.setRank(0, 4);
        land.setCrest(0, 51);
        land.setSupporters(0, 51, 52);
        land.augment(0, 1, 51, 3);
        land.abate(0, true);
        Check.due("an appeal", 2, () -> land.appeal(0));
        land.isSound();
        land.nearest();
        land.conflicts(0, 0);
        Check.same("the row", before, words(land));
        Check.due("how many words", 15, land::erase);
    }

    private static String words(Blazonry land) {
        StringBuilder text = new StringBuilder();
        text.append(land.wrongAt()).append(' ').append(land.fewest());
        for (int i = 0; i < 15; i++) {
            text.append(' ').append(land.translated(0, i)).append('/').append(land.fewestAt(i % land.fewest()));
        }
        for (int x = 0; x < 16; x++) {
            text.append(land.point(x, 15 - x)).append(land.point(x, 1));
        }
        return text.toString();
    }

    /** 39, a charge, perhaps an attitude: 58 is .XX XX. X.., turned XX. .XX ..X, overturned X.. XX. .XX. */
    private static void strewnAttitudes() {
        String[] due = {"011110100", "110011001", "100110011"};
        for (int way = 0; way < 3; way++) {
            Blazonry land = way == 0 ? Check.row(3, 39, 58, 1) : Check.row(3, 39, 58, 44 + way, 1);
            for (int block = 0; block < 16; block++) {
                StringBuilder got = new StringBuilder();
                for (int point = 0; point < 9; point++) {
                    int x = block % 4 * 4 + point % 3;
                    int y = block / 4 * 4 + point / 3;
                    got.append(land.point(x, y) == 1 ? 1 : 0);
                }
                Check.same("way " + way + " block " + block, due[way], got.toString());
            }
            Check.due("all blocks", 16, () -> land.drawn(0, false));
        }
    }

    /** Counterchanged points have that tincture of the field which it has not there, the line of the field too. */
    private static void counterchangedOverLines() {
        Blazonry land = Check.row(12, 10, 1, 16, 3, 21, 35);
        // x 6 and 7 have the line two points higher
        Check.due("x 6", 3, () -> land.point(6, 5));
        Check.due("x 6, below", 1, () -> land.point(6, 6));
        Check.due("x 8", 3, () -> land.point(8, 7));
        Check.due("x 8, below", 1, () -> land.point(8, 8));
    }

    /** Places and attitudes as told: also those that change nothing, on an ordinary, too. */
    private static void toldAttitudes() {
        told(3, 22, 1, 36, 61, 56, 45, 5);
        told(3, 22, 1, 36, 61, 56, 46, 5);
        told(3, 61, 56, 45, 1);
        told(3, 61, 56, 41, 1);
        told(3, 61, 56, 46, 43, 1);
        told(3, 39, 56, 46, 1);
    }

    /** 35 is for groups on a parted field: of one tincture alone it is not, though nothing of it is seen. */
    private static void counterchangedNeedsParting() {
        // the first group keeps the first block, and the chief hides it
        told(12, 1, 16, 1, 61, 56, 35, 65, 56, 3, 24, 4);
        told("[1, 61, 56, 1, 65, 56, 3, 24, 4]", 12, 1, 16, 1, 61, 56, 1, 65, 56, 3, 24, 4);
        told("[12, 1, 16, 1, 24, 3, 21, 35]", 12, 1, 16, 31, 24, 3, 21, 35);
        told("[1, 24, 3, 21, 1]", 12, 1, 16, 31, 24, 3, 21, 32);
    }

    /** Numbers as many as are drawn: in the row, not in what is tried with a group ahead left out. */
    private static void numbersOfTheRow() {
        told("[1, 61, 56, 1, 67, 56, 41, 3, 24, 4]", 1, 61, 56, 1, 69, 56, 41, 3, 24, 4);
        Blazonry land = Check.row(1, 61, 56, 1, 69, 56, 41, 3, 24, 4);
        Check.due("drawn", 7, () -> land.drawn(1, false));
        Check.due("told", 10, land::fewest);
        Twin.refused("no eleventh word", NoSuchElementException.class,
                () -> Check.row(1, 61, 56, 1, 69, 56, 41, 3, 24, 4), row -> row.fewestAt(10));
    }
}
