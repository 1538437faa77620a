import java.util.Arrays;
import java.util.NoSuchElementException;

/** Promises 10 to 13: the fewest words, losses and translations. */
public final class FewestTest {
    public static void main(String[] args) {
        fewest();
        translations();
        wrongInputs();
        Check.end();
    }

    private static void told(String want, int... words) {
        Check.same("fewest of " + Arrays.toString(words), want, Check.fewestOf(words).toString());
    }

    private static void fewest() {
        told("[3]", 3);
        told("[1]", 15, 1, 16, 31);
        told("[12, 1, 16, 3]", 12, 1, 16, 3);
        told("[12, 9, 1, 16, 3]", 12, 9, 1, 16, 3);
        // a chief with a line behind a chief without one that hides it
        told("[3, 24, 1]", 3, 24, 9, 1, 24, 31);
        told("[3, 24, 9, 1, 28, 2]", 3, 24, 9, 1, 28, 2);
        told("[11, 1, 16, 3, 21, 5]", 11, 9, 1, 16, 3, 21, 5);
        told("[12, 10, 1, 16, 3, 21, 5]", 12, 10, 1, 16, 3, 21, 5);
        // hidden groups are left out
        told("[3, 22, 1]", 3, 61, 51, 42, 3, 22, 1);
        told("[3, 25, 1, 36, 61, 51, 2]", 3, 22, 3, 25, 1, 36, 69, 51, 2);
        told("[3, 25, 1, 22, 5]", 3, 25, 1, 36, 61, 51, 2, 22, 5);
        told("[3]", 3, 22, 32, 28, 31);
        // one of the two tinctures alone
        told("[1, 22, 3]", 12, 1, 16, 31, 22, 3);
        told("[3, 24, 1]", 12, 3, 16, 3, 24, 1);
        // a line and what is on it are left out alone, or both, or none
        told("[3, 22, 9, 1, 36, 64, 51, 2]", 3, 22, 9, 1, 36, 64, 51, 2);
        told("[3, 24, 9, 1, 36, 64, 51, 2, 22, 5]", 3, 24, 9, 1, 36, 69, 51, 2, 22, 5);
        told("[3, 22, 1, 36, 64, 51, 2, 24, 5]", 3, 22, 1, 36, 69, 51, 2, 24, 5);
        told("[3, 24, 9, 1]", 3, 24, 9, 1, 36, 69, 51, 1);
        // numbers as many as are drawn
        told("[3, 24, 1, 36, 64, 51, 5]", 3, 24, 1, 36, 69, 51, 5);
        told("[3, 68, 51, 41, 1]", 3, 69, 51, 41, 1);
        told("[3, 39, 51, 1]", 3, 39, 51, 1);
        told("[3, 24, 1, 39, 51, 1]", 3, 24, 1, 39, 51, 1);
        // what is meant is told by its own word, or 35
        told("[3, 22, 1, 36, 64, 51, 3]", 3, 22, 1, 36, 69, 51, 32);
        told("[11, 1, 16, 3, 22, 35, 24, 35]", 11, 1, 16, 3, 22, 35, 24, 31);
        told("[1, 22, 2, 36, 61, 51, 3]", 1, 22, 2, 36, 61, 51, 3);
        // what is on an ordinary is left out with it, or alone
        told("[3, 24, 1]", 3, 24, 1, 36, 64, 51, 31);
        // places are told as they were
        told("[3, 61, 51, 41, 1]", 3, 61, 51, 41, 1, 22, 3);
        told("[3, 61, 51, 1]", 3, 61, 51, 1, 61, 51, 43, 3);
        // attitudes are told as they were
        told("[3, 61, 56, 45, 1]", 3, 61, 56, 45, 1);
        Blazonry land = Check.row(15, 1, 16, 31);
        Check.due("fewest", 1, land::fewest);
        land.erase();
        Check.typed(land, 12, 9, 1, 16, 3);
        Check.due("fewest again", 5, land::fewest);
        Check.due("the last", 3, () -> land.fewestAt(4));
        Check.due("isSound between", true, land::isSound);
        Check.due("the first", 12, () -> land.fewestAt(0));
    }

    private static void put(String want, int losses, int tradition, int... words) {
        Check.same("put into " + tradition + " " + Arrays.toString(words), want,
                Check.translatedOf(tradition, words).toString());
        Check.due("losses", losses, () -> Check.row(words).losses(tradition));
    }

    private static void translations() {
        int[] words = {11, 9, 8, 16, 1, 22, 10, 8, 36, 61, 51, 45, 32, 39, 52, 46, 35};
        put(Arrays.toString(words), 0, 0, words);
        put("[11, 9, 2, 16, 1, 22, 10, 2, 36, 61, 51, 45, 32, 39, 52, 46, 35]", 2, 1, words);
        put("[11, 8, 16, 1, 22, 8, 36, 61, 51, 45, 32, 39, 52, 46, 35]", 2, 2, words);
        put("[11, 9, 8, 16, 1, 22, 10, 8, 36, 61, 51, 32, 69, 52, 35]", 3, 3, words);
        put("[3]", 0, 1, 3);
        put("[2]", 1, 1, 8);
        put("[3, 69, 51, 1]", 1, 3, 3, 39, 51, 1);
        put("[3, 69, 51, 1]", 0, 3, 3, 69, 51, 1);
    }

    private static void wrongInputs() {
        Blazonry land = Check.row(12, 9, 1, 16, 3);
        Check.refused(land, "fewestAt 5", NoSuchElementException.class, () -> land.fewestAt(5));
        Check.refused(land, "fewestAt -1", NoSuchElementException.class, () -> land.fewestAt(-1));
        Check.refused(land, "losses 4", IllegalArgumentException.class, () -> land.losses(4));
        Check.refused(land, "losses -1", IllegalArgumentException.class, () -> land.losses(-1));
        Check.refused(land, "translated 4", IllegalArgumentException.class, () -> land.translated(4, 0));
        Check.refused(land, "translated -1", IllegalArgumentException.class, () -> land.translated(-1, 9));
        Check.refused(land, "translated 2 at 4", NoSuchElementException.class, () -> land.translated(2, 4));
        Check.refused(land, "translated 0 at 5", NoSuchElementException.class, () -> land.translated(0, 5));
        Check.refused(land, "translated 0 at -1", NoSuchElementException.class, () -> land.translated(0, -1));
        Check.due("translated 2 at 3", 3, () -> land.translated(2, 3));
        land.type(22);
        Check.refused(land, "fewest of a wrong row", UnsupportedOperationException.class, land::fewest);
        Check.refused(land, "fewestAt of a wrong row", UnsupportedOperationException.class, () -> land.fewestAt(-1));
        Check.refused(land, "losses of a wrong row", UnsupportedOperationException.class, () -> land.losses(0));
        Check.refused(land, "no tradition first", IllegalArgumentException.class, () -> land.losses(4));
        Check.refused(land, "translated of it", UnsupportedOperationException.class, () -> land.translated(0, 99));
        Check.refused(land, "no tradition first", IllegalArgumentException.class, () -> land.translated(4, 0));
    }
}
