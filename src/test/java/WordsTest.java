/** Promises 1 to 4 and 9: a new object, typing, erasing, where a row is wrong, and what its tinctures mean. */
public final class WordsTest {
    public static void main(String[] args) {
        newObject();
        typing();
        fields();
        groups();
        reachingBack();
        eachWordEverywhere();
        meanings();
        Check.end();
    }

    private static void newObject() {
        Blazonry land = new Blazonry();
        Check.due("persons", 0, land::persons);
        Check.due("arms", 0, land::arms);
        Check.due("year", 0, land::year);
        Check.due("erase", 0, land::erase);
        Check.due("wrongAt", 0, land::wrongAt);
        Check.due("disclaimed", 0, land::disclaimed);
        Check.due("no person", "throws.IndexOutOfBoundsException", () -> land.lives(0));
        Check.due("no arms", "throws.IndexOutOfBoundsException", () -> land.cameBy(0));
        Check.due("no judgment", "throws.IndexOutOfBoundsException", () -> land.judged(0));
    }

    private static void typing() {
        Blazonry land = new Blazonry();
        Check.refused(land, "type -1", IllegalArgumentException.class, () -> land.type(-1));
        Check.refused(land, "type 100", IllegalArgumentException.class, () -> land.type(100));
        Check.due("type 0", 1, () -> land.type(0));
        Check.due("type 99", 2, () -> land.type(99));
        Check.due("erase", 2, land::erase);
        Check.due("erase again", 0, land::erase);
        for (int i = 1; i <= 24; i++) {
            int count = i;
            Check.due("type", count, () -> land.type(count == 1 ? 3 : 22));
        }
        Check.refused(land, "type a 25th", IllegalStateException.class, () -> land.type(1));
        Check.refused(land, "type a wrong 25th", IllegalArgumentException.class, () -> land.type(100));
        Check.due("erase all", 24, land::erase);
        Check.due("wrongAt", 0, land::wrongAt);
        Check.due("type behind", 1, () -> land.type(4));
    }

    private static void wrong(int want, int... words) {
        Check.due("wrongAt of " + java.util.Arrays.toString(words), want, () -> Check.row(words).wrongAt());
    }

    private static void fields() {
        for (int word = 0; word < 100; word++) {
            boolean isTincture = word >= 1 && word <= 8;
            boolean isParting = word >= 11 && word <= 15;
            wrong(isTincture ? -1 : isParting ? 1 : 0, word);
        }
        for (int parting = 11; parting <= 15; parting++) {
            wrong(-1, parting, 1, 16, 2);
            wrong(parting < 14 ? -1 : 1, parting, 9, 1, 16, 2);
            wrong(parting < 14 ? -1 : 1, parting, 10, 8, 16, 8);
            wrong(2, parting, 1);
            wrong(3, parting, 1, 16);
            wrong(2, parting, 1, 2);
            wrong(1, parting, 16);
        }
        wrong(2, 11, 9);
        wrong(2, 11, 9, 9, 1, 16, 2);
        wrong(1, 1, 16);
        wrong(1, 1, 9);
        wrong(1, 3, 3);
    }

    private static void groups() {
        for (int word = 0; word < 100; word++) {
            boolean isOpen = word >= 21 && word <= 28 || word >= 61 && word <= 69 || word == 39;
            wrong(isOpen ? 2 : 1, 3, word);
        }
        for (int ordinary = 21; ordinary <= 28; ordinary++) {
            boolean isPlain = ordinary == 25 || ordinary == 26 || ordinary == 28;
            wrong(-1, 3, ordinary, 1);
            wrong(isPlain ? 2 : -1, 3, ordinary, 9, 1);
            wrong(isPlain ? 2 : 3, 3, ordinary, 10);
            wrong(4, 3, ordinary, 1, 36);
            wrong(-1, 3, ordinary, 1, 36, 61, 51, 2);
            wrong(-1, 3, ordinary, 1, 36, 69, 58, 45, 2);
            wrong(6, 3, ordinary, 1, 36, 61, 51);
        }
        wrong(6, 3, 22, 1, 36, 61, 51, 41, 2);
        wrong(4, 3, 22, 1, 36, 39, 51, 2);
        wrong(7, 3, 22, 1, 36, 61, 51, 2, 36);
        wrong(-1, 3, 61, 51, 1);
        wrong(-1, 3, 69, 58, 46, 44, 1);
        wrong(4, 3, 69, 58, 46, 45);
        wrong(4, 3, 61, 51, 41, 45, 1);
        wrong(2, 3, 61, 1);
        wrong(2, 3, 61, 59);
        wrong(4, 3, 61, 51, 1, 36);
        wrong(-1, 3, 39, 51, 1);
        wrong(-1, 3, 39, 51, 45, 1);
        wrong(3, 3, 39, 51, 41, 1);
        wrong(2, 3, 39, 61, 51, 1);
        wrong(-1, 3, 21, 1, 22, 1, 23, 1, 24, 1);
        wrong(9, 3, 21, 1, 22, 1, 23, 1, 24, 1, 25, 1);
        wrong(-1, 3, 21, 1, 22, 1, 23, 1, 24, 1, 36, 61, 51, 3);
        wrong(10, 3, 21, 1, 22, 1, 23, 1, 61, 51, 1, 39);
        wrong(24, 11, 9, 1, 16, 2, 22, 9, 1, 36, 61, 51, 45, 2, 23, 9, 1, 36, 61, 51, 45, 2, 61, 51, 46);
    }

    private static void reachingBack() {
        wrong(0, 31);
        wrong(0, 32);
        wrong(0, 33);
        wrong(0, 35);
        for (int word : new int[] {31, 32, 33, 35}) {
            wrong(1, 11, word, 16, 1);
            wrong(word == 31 || word == 32 ? -1 : 3, 11, 1, 16, word);
            wrong(word == 31 || word == 32 ? -1 : 2, 3, 22, word);
            wrong(-1, 11, 1, 16, 3, 22, word);
            wrong(-1, 11, 1, 16, 3, 61, 51, word);
            wrong(-1, 11, 1, 16, 3, 39, 51, word);
            wrong(word == 35 ? 9 : -1, 11, 1, 16, 3, 22, 4, 36, 61, 51, word);
            wrong(word == 33 || word == 35 ? 6 : -1, 3, 22, 4, 36, 61, 51, word);
        }
        wrong(-1, 11, 1, 16, 3, 22, 35, 36, 61, 51, 31);
        wrong(2, 3, 22, 34);
    }

    /** Every word at every place of some rows, against the grammar of the oracle. */
    private static void eachWordEverywhere() {
        int[][] rows = {
            {13, 9, 1, 16, 31, 22, 10, 35, 36, 61, 51, 45, 31, 39, 52, 46, 33, 69, 58, 44, 32},
            {3, 25, 31, 36, 62, 52, 32, 63, 53, 41, 1, 28, 2},
            {14, 8, 16, 2, 27, 33, 39, 57, 35, 24, 9, 31, 36, 64, 54, 33},
            {7, 61, 51, 2, 62, 52, 45, 42, 31, 26, 4, 21, 32, 36, 65, 55, 46, 32}};
        for (int[] row : rows) {
            for (int at = 0; at <= row.length; at++) {
                for (int word = 0; word < 100; word++) {
                    int[] words = java.util.Arrays.copyOf(row, Math.max(row.length, at + 1));
                    words[at] = word;
                    java.util.List<Integer> list = new java.util.ArrayList<>();
                    for (int each : words) {
                        list.add(each);
                    }
                    wrong(Oracle.fault(list), words);
                }
            }
        }
    }

    private static void meant(String want, int index, int... words) {
        Blazonry land = Check.row(words);
        Check.due("meant " + index + " of " + java.util.Arrays.toString(words), want, () -> land.meant(index));
    }

    private static void meanings() {
        int[] words = {11, 1, 16, 31, 22, 35, 36, 61, 51, 31, 24, 31, 39, 52, 33, 61, 53, 32};
        String[] want = {"", "1", "", "1", "", "35", "", "", "", "1", "", "1", "", "", "1", "", "", "1"};
        for (int i = -1; i <= words.length; i++) {
            boolean isTold = i >= 0 && i < words.length && !want[i].isEmpty();
            meant(isTold ? want[i] : "throws.NoSuchElementException", i, words);
        }
        meant("35", 7, 12, 1, 16, 3, 22, 35, 24, 31);
        meant("1", 9, 12, 1, 16, 3, 22, 35, 36, 61, 51, 31);
        meant("35", 8, 12, 1, 16, 3, 61, 51, 35, 28, 31);
        meant("1", 11, 12, 1, 16, 3, 22, 35, 36, 61, 51, 31, 24, 31);
        meant("5", 6, 3, 21, 5, 36, 61, 51, 31);
        meant("3", 6, 3, 21, 5, 36, 61, 51, 32);
        meant("7", 9, 15, 2, 16, 7, 21, 5, 36, 61, 51, 33);
        meant("8", 8, 3, 21, 5, 36, 61, 51, 8, 22, 31);
        meant("8", 0, 8);
        meant("throws.NoSuchElementException", 1, 8);
        meant("throws.UnsupportedOperationException", 0, 8, 8);
        meant("throws.UnsupportedOperationException", -1, 8, 22);
        Blazonry land = Check.row(3, 22, 1);
        Check.refused(land, "meant of no tincture", java.util.NoSuchElementException.class, () -> land.meant(1));
        land.type(36);
        Check.refused(land, "meant in a wrong row", UnsupportedOperationException.class, () -> land.meant(0));
    }
}
