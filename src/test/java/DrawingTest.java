import java.util.ArrayList;
import java.util.Arrays;
import java.util.List;
import java.util.NoSuchElementException;

/** Promises 5 to 8: points, points of shapes, the rule of tinctures, and how many charges are drawn. */
public final class DrawingTest {
    public static void main(String[] args) {
        fieldsPointByPoint();
        ordinariesPointByPoint();
        chargesPointByPoint();
        blocks();
        onOrdinaries();
        counterchanged();
        shapes();
        rule();
        rulePairs();
        wrongInputs();
        Check.end();
    }

    /** The rows of a picture as texts, a sign for each point. */
    private static String[] pictureOf(int... words) {
        Blazonry land = Check.row(words);
        String[] rows = new String[16];
        for (int y = 0; y < 16; y++) {
            StringBuilder row = new StringBuilder();
            for (int x = 0; x < 16; x++) {
                row.append(land.point(x, y));
            }
            rows[y] = row.toString();
        }
        return rows;
    }

    private static void row(int y, String want, int... words) {
        Check.same("row " + y + " of " + Arrays.toString(words), want, pictureOf(words)[y]);
    }

    private static void againstOracle(int... words) {
        List<Integer> list = new ArrayList<>();
        for (int word : words) {
            list.add(word);
        }
        Oracle.Told told = Oracle.read(list);
        int[][] at = Oracle.draw(told, told.first).at;
        String[] rows = pictureOf(words);
        for (int y = 0; y < 16; y++) {
            StringBuilder want = new StringBuilder();
            for (int x = 0; x < 16; x++) {
                want.append(at[x][y]);
            }
            Check.same("row " + y + " of " + list, want.toString(), rows[y]);
        }
    }

    private static void fieldsPointByPoint() {
        for (int parting = 11; parting <= 15; parting++) {
            againstOracle(parting, 1, 16, 3);
            if (parting < 14) {
                againstOracle(parting, 9, 1, 16, 3);
                againstOracle(parting, 10, 1, 16, 3);
            }
        }
        row(0, "1111111133333333", 11, 1, 16, 3);
        row(2, "1111111333333333", 11, 9, 1, 16, 3);
        row(1, "1111111133333333", 11, 9, 1, 16, 3);
        row(3, "1111113333333333", 11, 10, 1, 16, 3);
        row(4, "1111111133333333", 11, 10, 1, 16, 3);
        row(7, "1111111111111111", 12, 1, 16, 3);
        row(8, "3333333333333333", 12, 1, 16, 3);
        row(7, "1133113311331133", 12, 9, 1, 16, 3);
        row(6, "1133113311331133", 12, 10, 1, 16, 3);
        row(3, "3331111111111111", 13, 1, 16, 3);
        row(1, "3131111111111111", 13, 10, 1, 16, 3);
        row(0, "1111111111111111", 14, 1, 16, 3);
        row(1, "3111111111111113", 14, 1, 16, 3);
        row(0, "1111111133333333", 15, 1, 16, 3);
        row(8, "3333333311111111", 15, 1, 16, 3);
        row(9, "8888888888888888", 8);
    }

    private static void ordinariesPointByPoint() {
        for (int ordinary = 21; ordinary <= 28; ordinary++) {
            againstOracle(3, ordinary, 1);
            if (ordinary != 25 && ordinary != 26 && ordinary != 28) {
                againstOracle(3, ordinary, 9, 1);
                againstOracle(3, ordinary, 10, 1);
            }
        }
        row(0, "3333331111333333", 3, 21, 1);
        row(2, "3333311113333333", 3, 21, 9, 1);
        row(5, "3333333333333333", 3, 22, 1);
        row(6, "1111111111111111", 3, 22, 1);
        row(9, "1111111111111111", 3, 22, 1);
        row(4, "3311331133113311", 3, 22, 10, 1);
        row(0, "1113333333333333", 3, 23, 1);
        row(5, "3331111133333333", 3, 23, 1);
        row(4, "1111111111111111", 3, 24, 1);
        row(5, "3333333333333333", 3, 24, 1);
        row(3, "1133113311331133", 3, 24, 10, 1);
        row(0, "3333333113333333", 3, 25, 1);
        row(7, "1111111111111111", 3, 25, 1);
        row(0, "1133333333333311", 3, 26, 1);
        row(2, "3111333333331113", 3, 26, 1);
        row(3, "3333333113333333", 3, 27, 1);
        row(4, "3333331111333333", 3, 27, 1);
        row(10, "1111333333331111", 3, 27, 1);
        row(13, "1333333333333331", 3, 27, 1);
        row(2, "1133333333333311", 3, 28, 1);
        row(14, "1111111111111111", 3, 28, 1);
    }

    private static void chargesPointByPoint() {
        for (int charge = 51; charge <= 58; charge++) {
            for (int attitude = 0; attitude <= 46; attitude = attitude == 0 ? 45 : attitude + 1) {
                if (attitude == 0) {
                    againstOracle(3, 63, charge, 1);
                    againstOracle(3, 22, 1, 36, 63, charge, 5);
                } else {
                    againstOracle(3, 63, charge, attitude, 1);
                    againstOracle(3, 22, 1, 36, 63, charge, attitude, 5);
                }
            }
        }
        row(0, "3133333333333333", 3, 61, 51, 1);
        row(1, "1113333333333333", 3, 61, 51, 1);
        row(0, "1133333333333333", 3, 61, 57, 1);
        row(0, "3113333333333333", 3, 61, 57, 45, 1);
        row(0, "3133333333333333", 3, 61, 57, 46, 1);
        row(1, "1133333333333333", 3, 61, 57, 46, 1);
        row(2, "1133333333333333", 3, 61, 57, 46, 1);
    }

    private static void drawn(String want, int group, boolean isOn, int... words) {
        Blazonry land = Check.row(words);
        Check.due("drawn of " + Arrays.toString(words), want, () -> land.drawn(group, isOn));
    }

    private static void blocks() {
        drawn("9", 0, false, 3, 69, 56, 1);
        drawn("16", 0, false, 3, 39, 56, 1);
        drawn("8", 0, false, 3, 69, 56, 41, 1);
        drawn("8", 0, false, 3, 69, 56, 44, 1);
        drawn("7", 1, false, 3, 69, 56, 1, 69, 51, 1);
        drawn("0", 1, false, 3, 39, 54, 1, 61, 51, 1);
        // the chief has points of the second row of blocks, too
        drawn("8", 1, false, 3, 24, 1, 39, 51, 1);
        drawn("0", 2, false, 3, 24, 1, 39, 51, 1, 61, 51, 1);
        row(8, "1113333333333333", 3, 61, 56, 42, 1, 61, 56, 43, 1);
        row(0, "1113333333333333", 3, 61, 56, 43, 1);
        row(0, "3333333311133333", 3, 61, 56, 44, 1);
        row(0, "1113333333333333", 3, 61, 56, 41, 1);
        row(8, "1113333333333333", 3, 61, 56, 42, 1);
        row(0, "1113222355533333", 3, 61, 56, 1, 61, 56, 2, 61, 56, 5);
        row(3, "3333333333333333", 3, 39, 56, 1);
        againstOracle(3, 24, 1, 39, 52, 2);
        againstOracle(3, 28, 1, 69, 53, 45, 5, 39, 54, 2);
        againstOracle(3, 26, 1, 64, 57, 43, 5, 22, 10, 2, 61, 56, 42, 7);
    }

    private static void onOrdinaries() {
        drawn("4", 0, true, 3, 24, 1, 36, 69, 56, 5);
        drawn("1", 0, true, 3, 24, 1, 36, 61, 56, 5);
        drawn("3", 1, true, 3, 61, 51, 1, 24, 1, 36, 63, 56, 5);
        // one block alone has 5 points of a cross
        drawn("1", 0, true, 3, 25, 1, 36, 69, 56, 5);
        row(8, "1111111155511111", 3, 25, 1, 36, 69, 56, 5);
        row(9, "3333333153333333", 3, 25, 1, 36, 69, 56, 5);
        // a wavy pale has 4 points of the blocks in one column, and 5 of those in the next one
        drawn("4", 0, true, 3, 21, 9, 1, 36, 69, 56, 5);
        row(0, "3333331155333333", 3, 21, 9, 1, 36, 69, 56, 5);
        drawn("4", 0, true, 3, 23, 1, 36, 69, 56, 5);
        row(0, "5551555155515551", 3, 24, 1, 36, 69, 56, 5);
        againstOracle(3, 23, 1, 36, 69, 56, 5);
        againstOracle(3, 26, 1, 36, 69, 55, 46, 5);
        againstOracle(3, 27, 9, 1, 36, 69, 56, 5, 61, 51, 2);
        againstOracle(3, 28, 1, 36, 69, 56, 5);
    }

    private static void counterchanged() {
        row(7, "3333333311111111", 11, 1, 16, 3, 22, 35);
        row(0, "1111111133333333", 11, 1, 16, 3, 22, 35);
        row(0, "3331333111131113", 11, 1, 16, 3, 64, 56, 35);
        row(7, "3333333311111111", 11, 1, 16, 3, 22, 5, 22, 35);
        againstOracle(15, 1, 16, 3, 26, 35, 36, 65, 56, 5, 39, 52, 31);
        againstOracle(13, 9, 1, 16, 3, 27, 10, 35, 28, 31, 61, 51, 35);
    }

    private static void shapes() {
        int[] sizes = {0, 0, 256, 0};
        for (int shape = 0; shape < 4; shape++) {
            for (int point = 0; point < 256; point++) {
                sizes[shape] += shape != 2 && Oracle.inShape(shape, point % 16, point / 16) ? 1 : 0;
            }
        }
        Blazonry land = Check.row(11, 7, 16, 3);
        int of = 0;
        for (int shape = 0; shape < 4; shape++) {
            int asked = shape;
            Check.due("half of the shape", sizes[shape] / 2, () -> land.points(asked, 3));
            Check.due("other half", sizes[shape] / 2, () -> land.points(asked, 7));
            Check.due("no more", 0, () -> land.points(asked, 1));
            of += sizes[shape];
        }
        Check.same("all shapes", "788", String.valueOf(of));
        Check.due("seal", 94, () -> Check.row(11, 7, 16, 3).points(3, 3));
        Check.due("lozenge", 72, () -> Check.row(11, 7, 16, 3).points(1, 3));
        Check.due("shield", 100, () -> Check.row(11, 7, 16, 3).points(0, 3));
    }

    private static void breaks(int want, int... words) {
        Check.due("breaks of " + Arrays.toString(words), want, () -> Check.row(words).breaks());
    }

    private static void rule() {
        breaks(0, 3);
        breaks(1, 3, 22, 4);
        breaks(1, 3, 22, 31);
        breaks(1, 1, 22, 2);
        breaks(0, 1, 22, 3);
        breaks(0, 7, 22, 2);
        breaks(0, 8, 22, 8);
        breaks(0, 8, 22, 7);
        breaks(0, 7, 22, 8);
        breaks(0, 3, 28, 7);
        breaks(1, 3, 28, 7, 36, 61, 51, 5);
        breaks(0, 11, 3, 16, 4, 22, 5);
        breaks(0, 11, 3, 16, 4, 22, 35);
        breaks(1, 11, 3, 16, 4, 22, 5, 36, 61, 51, 6);
        breaks(0, 11, 3, 16, 4, 22, 35, 36, 61, 51, 6);
        breaks(2, 3, 22, 7, 36, 61, 51, 6);
        breaks(1, 3, 22, 1, 36, 61, 51, 2);
        breaks(0, 3, 22, 8, 36, 61, 51, 8);
        breaks(4, 3, 22, 4, 23, 4, 24, 4, 61, 51, 5);
        breaks(1, 3, 39, 56, 1, 61, 51, 4);
        breaks(1, 3, 25, 1, 36, 61, 51, 2);
    }

    /** Each two tinctures, of a field and a group, and of an ordinary and what is on it. */
    private static void rulePairs() {
        for (int one = 1; one <= 8; one++) {
            for (int other = 1; other <= 8; other++) {
                boolean isBroken = one <= 2 && other <= 2 || one > 2 && other > 2 && one < 8 && other < 8;
                breaks(isBroken ? 1 : 0, one, 22, other);
                breaks(isBroken ? 1 : 0, one, 61, 51, other);
                breaks(isBroken ? 1 : 0, 12, 1, 16, 3, 22, one, 36, 61, 51, other);
                breaks(0, one, 28, other);
            }
        }
    }

    private static void wrongInputs() {
        Blazonry land = Check.row(3, 24, 1);
        int[][] noPoints = {{-1, 0}, {16, 0}, {0, -1}, {0, 16}};
        for (int[] at : noPoints) {
            Check.refused(land, "point", IndexOutOfBoundsException.class, () -> land.point(at[0], at[1]));
        }
        int[][] noShapes = {{-1, 1}, {4, 1}, {0, 0}, {0, 9}, {9, 9}};
        for (int[] at : noShapes) {
            Check.refused(land, "points", IllegalArgumentException.class, () -> land.points(at[0], at[1]));
        }
        Check.refused(land, "drawn of none on", NoSuchElementException.class, () -> land.drawn(0, true));
        Check.refused(land, "drawn of an ordinary", NoSuchElementException.class, () -> land.drawn(0, false));
        Check.refused(land, "drawn of group 1", NoSuchElementException.class, () -> land.drawn(1, false));
        Blazonry before = Check.row(3, 24, 1, 61, 51, 1);
        Check.due("drawn of group 1", 1, () -> before.drawn(1, false));
        Check.typed(before, 3);
        Check.due("no group now", "throws.NoSuchElementException", () -> before.drawn(1, false));
        Check.due("no group now", "throws.NoSuchElementException", () -> before.drawn(0, false));
        Check.refused(land, "drawn of group -1", NoSuchElementException.class, () -> land.drawn(-1, false));
        drawn("throws.NoSuchElementException", 0, true, 3, 61, 51, 1);
        land.type(36);
        Check.refused(land, "point of a wrong row", UnsupportedOperationException.class, () -> land.point(0, 0));
        Check.refused(land, "no point first", IndexOutOfBoundsException.class, () -> land.point(16, 0));
        Check.refused(land, "points of a wrong row", UnsupportedOperationException.class, () -> land.points(0, 1));
        Check.refused(land, "no shape first", IllegalArgumentException.class, () -> land.points(4, 1));
        Check.refused(land, "breaks of a wrong row", UnsupportedOperationException.class, land::breaks);
        Check.refused(land, "drawn of a wrong row", UnsupportedOperationException.class, () -> land.drawn(9, false));
    }
}
