import java.util.Arrays;
import java.util.NoSuchElementException;

/** The bounds that the document names for promises 5 to 8, and in the sections Drawing and The rule. */
public final class EdgeDrawingTest {
    /** Word and line, then the rows from the top, four hex digits each: the highest bit is the point x 0. */
    private static final String[] SECONDS = {
        "11 0: 00FF 00FF 00FF 00FF 00FF 00FF 00FF 00FF 00FF 00FF 00FF 00FF 00FF 00FF 00FF 00FF",
        "11 9: 00FF 00FF 01FF 01FF 00FF 00FF 01FF 01FF 00FF 00FF 01FF 01FF 00FF 00FF 01FF 01FF",
        "11 10: 00FF 00FF 03FF 03FF 00FF 00FF 03FF 03FF 00FF 00FF 03FF 03FF 00FF 00FF 03FF 03FF",
        "12 0: 0000 0000 0000 0000 0000 0000 0000 0000 FFFF FFFF FFFF FFFF FFFF FFFF FFFF FFFF",
        "12 9: 0000 0000 0000 0000 0000 0000 0000 3333 FFFF FFFF FFFF FFFF FFFF FFFF FFFF FFFF",
        "12 10: 0000 0000 0000 0000 0000 0000 3333 3333 FFFF FFFF FFFF FFFF FFFF FFFF FFFF FFFF",
        "13 0: 0000 8000 C000 E000 F000 F800 FC00 FE00 FF00 FF80 FFC0 FFE0 FFF0 FFF8 FFFC FFFE",
        "13 9: 0000 8000 E000 F000 F000 F800 FE00 FF00 FF00 FF80 FFE0 FFF0 FFF0 FFF8 FFFE FFFF",
        "13 10: 0000 A000 F000 F000 F000 FA00 FF00 FF00 FF00 FFA0 FFF0 FFF0 FFF0 FFFA FFFF FFFF",
        "14 0: 0000 8001 C003 E007 F00F F81F FC3F FE7F FE7F FC3F F81F F00F E007 C003 8001 0000",
        "15 0: 00FF 00FF 00FF 00FF 00FF 00FF 00FF 00FF FF00 FF00 FF00 FF00 FF00 FF00 FF00 FF00"};
    private static final String[] ORDINARIES = {
        "21 0: 03C0 03C0 03C0 03C0 03C0 03C0 03C0 03C0 03C0 03C0 03C0 03C0 03C0 03C0 03C0 03C0",
        "21 9: 03C0 03C0 0780 0780 03C0 03C0 0780 0780 03C0 03C0 0780 0780 03C0 03C0 0780 0780",
        "21 10: 03C0 03C0 0F00 0F00 03C0 03C0 0F00 0F00 03C0 03C0 0F00 0F00 03C0 03C0 0F00 0F00",
        "22 0: 0000 0000 0000 0000 0000 0000 FFFF FFFF FFFF FFFF 0000 0000 0000 0000 0000 0000",
        "22 9: 0000 0000 0000 0000 0000 3333 FFFF FFFF FFFF CCCC 0000 0000 0000 0000 0000 0000",
        "22 10: 0000 0000 0000 0000 3333 3333 FFFF FFFF CCCC CCCC 0000 0000 0000 0000 0000 0000",
        "23 0: E000 F000 F800 7C00 3E00 1F00 0F80 07C0 03E0 01F0 00F8 007C 003E 001F 000F 0007",
        "23 9: F000 F000 F800 7E00 1F00 0F00 0F80 07E0 01F0 00F0 00F8 007E 001F 000F 000F 0007",
        "23 10: F000 F000 FA00 5F00 0F00 0F00 0FA0 05F0 00F0 00F0 00FA 005F 000F 000F 000F 0005",
        "24 0: FFFF FFFF FFFF FFFF FFFF 0000 0000 0000 0000 0000 0000 0000 0000 0000 0000 0000",
        "24 9: FFFF FFFF FFFF FFFF CCCC 0000 0000 0000 0000 0000 0000 0000 0000 0000 0000 0000",
        "24 10: FFFF FFFF FFFF CCCC CCCC 0000 0000 0000 0000 0000 0000 0000 0000 0000 0000 0000",
        "25 0: 0180 0180 0180 0180 0180 0180 0180 FFFF FFFF 0180 0180 0180 0180 0180 0180 0180",
        "26 0: C003 E007 700E 381C 1C38 0E70 07E0 03C0 03C0 07E0 0E70 1C38 381C 700E E007 C003",
        "27 0: 0000 0000 0000 0180 03C0 07E0 0FF0 1E78 3C3C 781E F00F E007 C003 8001 0000 0000",
        "27 9: 0000 0000 0100 0380 03E0 07F0 1EF0 3C78 3C1E 780F E00F C007 C001 8000 0000 0000",
        "27 10: 0000 0100 0300 03A0 03F0 16F0 3CF0 3C5A 3C0F 680F C00F C005 C000 8000 0000 0000",
        "28 0: FFFF FFFF C003 C003 C003 C003 C003 C003 C003 C003 C003 C003 C003 C003 FFFF FFFF"};
    /** The points of the charges 51 to 58: straight, turned, overturned. */
    private static final String[] CHARGES = {
        "010111010 010111010 010111010", "101010101 101010101 101010101", "010010010 010010010 010010010",
        "000111000 000111000 000111000", "111101111 111101111 111101111", "111111111 111111111 111111111",
        "110110010 011011010 010110110", "011110100 110011001 100110011"};
    /** How many of the 9 points of each block a shape has. */
    private static final int[][] SHAPE_BLOCKS = {
        {9, 9, 9, 9, 9, 9, 9, 9, 6, 9, 9, 8, 0, 6, 8, 0},
        {0, 3, 6, 0, 3, 9, 9, 6, 6, 9, 9, 8, 0, 6, 8, 0},
        {9, 9, 9, 9, 9, 9, 9, 9, 9, 9, 9, 9, 9, 9, 9, 9},
        {0, 7, 8, 1, 7, 9, 9, 9, 8, 9, 9, 9, 1, 9, 9, 3}};
    /** How many points of the ordinaries 21 to 28, and of the second tincture of 11 to 15, a shape has. */
    private static final int[][] SHAPE_ORDINARIES = {
        {62, 62, 58, 80, 60, 68, 48, 68}, {60, 60, 42, 30, 60, 48, 48, 24},
        {64, 64, 74, 80, 60, 88, 64, 112}, {64, 64, 52, 48, 60, 60, 54, 48}};
    private static final int[][] SHAPE_PARTINGS = {
        {100, 72, 80, 88, 100}, {72, 72, 68, 64, 72}, {128, 128, 120, 112, 128}, {94, 94, 89, 84, 94}};
    private static final int[] SIZES = {200, 144, 256, 188};

    private static final Twin.Maker RIGHT = () -> Check.row(3, 24, 1, 36, 69, 56, 5, 62, 51, 2);
    private static final Twin.Maker WRONG = () -> Check.row(3, 24, 1, 36);
    private static final int[] FAR = {Integer.MIN_VALUE, -1, 16, Integer.MAX_VALUE};

    public static void main(String[] args) {
        partings();
        ordinaries();
        chargePoints();
        blocks();
        places();
        takenBlocks();
        onOrdinaries();
        counterchanged();
        shapes();
        ruleOfTinctures();
        howManyDrawn();
        pointBounds();
        shapeBounds();
        refusals();
        Check.end();
    }

    private static String bitsOf(Blazonry land, int tincture) {
        StringBuilder text = new StringBuilder();
        for (int y = 0; y < 16; y++) {
            int row = 0;
            for (int x = 0; x < 16; x++) {
                row |= land.point(x, y) == tincture ? 1 << 15 - x : 0;
            }
            text.append(String.format(" %04X", row));
        }
        return text.toString();
    }

    private static void partings() {
        for (String each : SECONDS) {
            String[] parts = each.split("[ :]+", 3);
            int parting = Integer.parseInt(parts[0]);
            int line = Integer.parseInt(parts[1]);
            int[] words = line == 0 ? new int[] {parting, 4, 16, 8} : new int[] {parting, line, 4, 16, 8};
            Check.same("second points of " + Arrays.toString(words), " " + parts[2], bitsOf(Check.row(words), 8));
            Check.due("and the others", 256 - Check.row(words).points(2, 8), () -> Check.row(words).points(2, 4));
        }
    }

    private static void ordinaries() {
        for (String each : ORDINARIES) {
            String[] parts = each.split("[ :]+", 3);
            int ordinary = Integer.parseInt(parts[0]);
            int line = Integer.parseInt(parts[1]);
            int[] words = line == 0 ? new int[] {7, ordinary, 1} : new int[] {7, ordinary, line, 1};
            Check.same("points of " + Arrays.toString(words), " " + parts[2], bitsOf(Check.row(words), 1));
        }
    }

    /** Bits, the highest one for the first point, row by row; left and right or above and below exchanged. */
    private static void chargePoints() {
        for (int c = 0; c < 8; c++) {
            String[] wants = CHARGES[c].split(" ");
            Blazonry[] lands = {
                Check.row(3, 61, 51 + c, 1), Check.row(3, 61, 51 + c, 45, 1), Check.row(3, 61, 51 + c, 46, 1),
                Check.row(3, 24, 2, 36, 61, 51 + c, 1), Check.row(3, 24, 2, 36, 61, 51 + c, 45, 1),
                Check.row(3, 24, 2, 36, 61, 51 + c, 46, 1)};
            for (int i = 0; i < 6; i++) {
                StringBuilder got = new StringBuilder();
                for (int point = 0; point < 9; point++) {
                    got.append(lands[i].point(point % 3, point / 3) == 1 ? 1 : 0);
                }
                Check.same("points of the charge " + (51 + c), wants[i % 3], got.toString());
            }
        }
    }

    /** The blocks that have all their points of a tincture; told in hex, the first block in the highest bit. */
    private static void blocksOf(String want, int tincture, int... words) {
        Blazonry land = Check.row(words);
        int blocks = 0;
        for (int b = 0; b < 16; b++) {
            boolean isFull = true;
            for (int point = 0; point < 9; point++) {
                isFull &= land.point(b % 4 * 4 + point % 3, b / 4 * 4 + point / 3) == tincture;
            }
            blocks |= isFull ? 1 << 15 - b : 0;
        }
        Check.same("blocks of " + Arrays.toString(words), want, String.format("%04X", blocks));
    }

    /** 16 blocks, 4 in a row, from the top; charges take the first ones, as many as the number, 39 all. */
    private static void blocks() {
        String[] wants = {"8000", "C000", "E000", "F000", "F800", "FC00", "FE00", "FF00", "FF80"};
        for (int number = 1; number <= 9; number++) {
            int count = number;
            blocksOf(wants[number - 1], 1, 3, 60 + number, 56, 1);
            Check.due("points", 9 * count, () -> Check.row(3, 60 + count, 56, 1).points(2, 1));
            Check.due("drawn", count, () -> Check.row(3, 60 + count, 56, 1).drawn(0, false));
        }
        blocksOf("FFFF", 1, 3, 39, 56, 1);
        Check.due("points", 144, () -> Check.row(3, 39, 56, 1).points(2, 1));
        Check.due("drawn", 16, () -> Check.row(3, 39, 56, 1).drawn(0, false));
    }

    /** Only blocks of the upper two rows for 41, the lower two for 42, the columns 0 and 1 for 43, 2 and 3 for 44. */
    private static void places() {
        String[] ones = {"8000", "0080", "8000", "2000"};
        String[] fives = {"F800", "00F8", "CC80", "3320"};
        String[] all = {"FF00", "00FF", "CCCC", "3333"};
        for (int i = 0; i < 4; i++) {
            int place = 41 + i;
            blocksOf(ones[i], 1, 3, 61, 56, place, 1);
            blocksOf(fives[i], 1, 3, 65, 56, place, 1);
            blocksOf(all[i], 1, 3, 68, 56, place, 1);
            blocksOf(all[i], 1, 3, 69, 56, 46, place, 1);
            Check.due("8 of 9", 8, () -> Check.row(3, 69, 56, place, 1).drawn(0, false));
            Check.due("8 of 8", 8, () -> Check.row(3, 68, 56, place, 1).drawn(0, false));
            Check.due("none is left", 0, () -> Check.row(3, 68, 56, place, 1, 61, 56, place, 2).drawn(1, false));
        }
    }

    /** Blocks none of whose 9 points an ordinary or a charge of a group ahead has; what finds no block is not drawn. */
    private static void takenBlocks() {
        String[] free = {"9999", "F00F", "318C", "00FF", "DD0D", "6892", "F906", "0660"};
        for (int i = 0; i < 8; i++) {
            blocksOf(free[i], 2, 3, 21 + i, 1, 39, 56, 2);
        }
        // the chief with a line has points of the second row of blocks still, but embattled only left of the middle
        blocksOf("00FF", 2, 3, 24, 9, 1, 39, 56, 2);
        blocksOf("FFFF", 2, 3, 39, 56, 2);
        blocksOf("1FFF", 2, 3, 63, 53, 1, 39, 56, 2);
        blocksOf("0000", 2, 3, 39, 54, 1, 69, 56, 2);
        Check.due("not drawn", 0, () -> Check.row(3, 39, 54, 1, 69, 56, 2).drawn(1, false));
        Check.due("as it is told", 112, () -> Check.row(3, 28, 2, 64, 51, 3).points(2, 2));
        // what is on an ordinary, and blocks without points, are no hindrance
        blocksOf("F00F", 2, 3, 22, 1, 36, 69, 51, 5, 39, 56, 2);
        // a charge ahead that is not drawn, or has its points elsewhere, does not count
        blocksOf("0800", 5, 3, 64, 56, 1, 61, 56, 5);
        blocksOf("7000", 5, 3, 61, 54, 1, 63, 56, 41, 5);
        blocksOf("0080", 5, 3, 68, 56, 41, 1, 61, 56, 41, 2, 61, 56, 5);
    }

    /** Charges on an ordinary take the first blocks with 5 or more of their 9 points on it, and stay on it. */
    private static void onOrdinaries() {
        // from 21 to 28: how many of 9 find a block; the saltire has blocks with 6, the bordure one with 5 points
        int[] straight = {4, 4, 4, 4, 1, 8, 4, 8};
        for (int i = 0; i < 8; i++) {
            int at = i;
            Check.due("on " + (21 + i), straight[i], () -> Check.row(3, 21 + at, 1, 36, 69, 56, 5).drawn(0, true));
        }
        // a wavy pale has 4 points of each block in the column 1, and 5 of each in the column 2
        Check.due("5 are enough", 4, () -> Check.row(3, 21, 9, 1, 36, 69, 56, 5).drawn(0, true));
        Check.due("with 5 points", 20, () -> Check.row(3, 21, 9, 1, 36, 69, 56, 5).points(2, 5));
        Check.due("4 are not", 1, () -> Check.row(3, 21, 9, 1, 36, 69, 56, 5).point(6, 0));
        Check.due("5 are", 5, () -> Check.row(3, 21, 9, 1, 36, 69, 56, 5).point(9, 1));
        Check.due("beside it", 3, () -> Check.row(3, 21, 9, 1, 36, 69, 56, 5).point(10, 1));
        Check.due("on it still", 1, () -> Check.row(3, 21, 9, 1, 36, 69, 56, 5).point(8, 3));
        for (int number = 1; number <= 5; number++) {
            int count = number;
            Check.due("first ones", Math.min(count, 4),
                    () -> Check.row(3, 24, 1, 36, 60 + count, 56, 5).drawn(0, true));
        }
        blocksOf("C000", 5, 3, 24, 1, 36, 62, 56, 5);
        // groups ahead do not hinder what is on an ordinary
        blocksOf("F000", 5, 3, 69, 56, 2, 24, 1, 36, 69, 56, 5);
        Check.due("a chief", 80 - 36, () -> Check.row(3, 24, 1, 36, 69, 56, 5).points(2, 1));
    }

    /** Counterchanged points have that tincture of the field which it has not there. */
    private static void counterchanged() {
        Check.same("a fess", " 00FF 00FF 00FF 00FF 00FF 00FF FF00 FF00 FF00 FF00 00FF 00FF 00FF 00FF 00FF 00FF",
                bitsOf(Check.row(11, 1, 16, 3, 22, 35), 3));
        Check.same("of the field, not of what is there",
                " 00FF 00FF 00FF 00FF 00FF 00FF FF00 FF00 FF00 FF00 00FF 00FF 00FF 00FF 00FF 00FF",
                bitsOf(Check.row(11, 1, 16, 3, 22, 5, 22, 35), 3));
        Check.due("two alike", 256, () -> Check.row(11, 4, 16, 4, 22, 35).points(2, 4));
        blocksOf("3333", 1, 11, 1, 16, 3, 39, 56, 35);
        blocksOf("CCCC", 3, 11, 1, 16, 3, 39, 56, 35);
    }

    /** The shapes: each block, each ordinary, each parting, and all their points. */
    private static void shapes() {
        for (int s = 0; s < 4; s++) {
            int shape = s;
            for (int b = 0; b < 16; b++) {
                int ahead = b % 8;
                int place = b < 8 ? 41 : 42;
                Blazonry land = ahead == 0 ? Check.row(3, 61, 56, place, 2)
                        : Check.row(3, 60 + ahead, 56, place, 1, 61, 56, place, 2);
                Check.due("block " + b + " of the shape " + s, SHAPE_BLOCKS[s][b], () -> land.points(shape, 2));
            }
            for (int i = 0; i < 8; i++) {
                int ordinary = 21 + i;
                Check.due(ordinary + " of the shape " + s, SHAPE_ORDINARIES[s][i],
                        () -> Check.row(3, ordinary, 1).points(shape, 1));
            }
            for (int i = 0; i < 5; i++) {
                int parting = 11 + i;
                Check.due(parting + " of the shape " + s, SHAPE_PARTINGS[s][i],
                        () -> Check.row(parting, 3, 16, 1).points(shape, 1));
            }
            for (int t = 1; t <= 8; t++) {
                int tincture = t;
                Check.due("all", SIZES[s], () -> Check.row(tincture).points(shape, tincture));
                Check.due("none", 0, () -> Check.row(tincture).points(shape, tincture % 8 + 1));
            }
        }
    }

    private static void breaks(int want, int... words) {
        Check.due("breaks of " + Arrays.toString(words), want, () -> Check.row(words).breaks());
    }

    /** Both metals, 1 and 2, or both colours, 3 to 7; the fur 8 and 28 never; on a parted field what is on it alone. */
    private static void ruleOfTinctures() {
        for (int one = 1; one <= 8; one++) {
            for (int other = 1; other <= 8; other++) {
                int want = one < 3 && other < 3 || one > 2 && one < 8 && other > 2 && other < 8 ? 1 : 0;
                for (int ordinary = 21; ordinary <= 28; ordinary++) {
                    breaks(ordinary == 28 ? 0 : want, one, ordinary, other);
                    breaks(0, 15, one, 16, one, ordinary, other);
                }
                breaks(want, one, 61, 51, other);
                breaks(want, one, 39, 58, 46, other);
                breaks(want, one, 69, 55, 45, 44, other);
                breaks(want, 11, 1, 16, 3, 25, one, 36, 69, 51, 46, other);
                breaks(0, 11, one, 16, 3, 25, 35, 36, 61, 51, other);
            }
        }
        breaks(0, 3);
        breaks(0, 11, 3, 16, 4);
        breaks(7, 3, 21, 4, 36, 61, 51, 5, 22, 4, 36, 61, 51, 5, 23, 4, 36, 61, 51, 5, 24, 4);
        breaks(1, 3, 39, 56, 1, 61, 51, 4);
        breaks(1, 3, 25, 1, 36, 69, 51, 2);
        breaks(1, 3, 22, 31);
        breaks(1, 3, 22, 32);
        breaks(1, 11, 1, 16, 3, 22, 33, 36, 61, 51, 31);
        breaks(0, 11, 1, 16, 3, 22, 35, 36, 61, 51, 31);
        breaks(0, 3, 61, 51, 1, 61, 51, 1);
    }

    /** group: the number of the group, from 0; NoSuchElementException if there is no such group, or no such charges. */
    private static void howManyDrawn() {
        Blazonry four = Check.row(3, 24, 1, 36, 62, 51, 5, 61, 51, 2, 39, 52, 4, 22, 7, 36, 69, 53, 1);
        Check.due("the least, on it", 2, () -> four.drawn(0, true));
        Check.due("the next", 1, () -> four.drawn(1, false));
        Check.due("39", 7, () -> four.drawn(2, false));
        Check.due("the greatest, on it", 4, () -> four.drawn(3, true));
        Twin.Maker maker = () -> Check.row(3, 24, 1, 36, 62, 51, 5, 61, 51, 2, 39, 52, 4, 22, 7, 36, 69, 53, 1);
        for (int group : new int[] {Integer.MIN_VALUE, -1, 4, 5, Integer.MAX_VALUE}) {
            Twin.refused("no group", NoSuchElementException.class, maker, land -> land.drawn(group, true));
            Twin.refused("no group", NoSuchElementException.class, maker, land -> land.drawn(group, false));
        }
        for (int group : new int[] {0, 3}) {
            Twin.refused("an ordinary", NoSuchElementException.class, maker, land -> land.drawn(group, false));
        }
        for (int group : new int[] {1, 2}) {
            Twin.refused("nothing on it", NoSuchElementException.class, maker, land -> land.drawn(group, true));
        }
        Twin.Maker bare = () -> Check.row(3, 22, 1);
        Twin.refused("nothing on it", NoSuchElementException.class, bare, land -> land.drawn(0, true));
        Twin.refused("no charges", NoSuchElementException.class, bare, land -> land.drawn(0, false));
        Twin.refused("the next group", NoSuchElementException.class, bare, land -> land.drawn(1, false));
        Twin.refused("a field", NoSuchElementException.class, () -> Check.row(3), land -> land.drawn(0, false));
        // groups of the row before are none of this one
        Twin.Maker after = () -> Check.typed(Check.row(3, 61, 51, 1, 62, 51, 1, 22, 1, 36, 61, 51, 2), 3, 61, 51, 1);
        Twin.refused("of the row before", NoSuchElementException.class, after, land -> land.drawn(1, false));
        Twin.refused("of the row before", NoSuchElementException.class, after, land -> land.drawn(2, true));
        Twin.refused("of the row before", NoSuchElementException.class, after, land -> land.drawn(0, true));
    }

    /** x and y, 0 to 15. */
    private static void pointBounds() {
        Blazonry land = Check.row(15, 1, 16, 3, 28, 5);
        int[][] corners = {{0, 0}, {15, 0}, {0, 15}, {15, 15}};
        for (int[] at : corners) {
            Check.due("a corner", 5, () -> land.point(at[0], at[1]));
        }
        Check.due("the last of the first quarter", 1, () -> land.point(7, 7));
        Check.due("the first of the second", 3, () -> land.point(8, 7));
        for (int far : FAR) {
            Twin.refused("x", IndexOutOfBoundsException.class, RIGHT, of -> of.point(far, 0));
            Twin.refused("y", IndexOutOfBoundsException.class, RIGHT, of -> of.point(15, far));
            Twin.refused("both", IndexOutOfBoundsException.class, RIGHT, of -> of.point(far, far));
            Twin.refused("no point first", IndexOutOfBoundsException.class, WRONG, of -> of.point(far, 0));
            Twin.refused("no point first", IndexOutOfBoundsException.class, WRONG, of -> of.point(0, far));
        }
    }

    /** shape, 0 to 3; tincture, 1 to 8. */
    private static void shapeBounds() {
        Check.due("the least of both", 0, () -> Check.row(3).points(0, 1));
        Check.due("the greatest of both", 188, () -> Check.row(8).points(3, 8));
        for (int shape : new int[] {Integer.MIN_VALUE, -1, 4, Integer.MAX_VALUE}) {
            Twin.refused("no shape", IllegalArgumentException.class, RIGHT, of -> of.points(shape, 1));
            Twin.refused("no shape first", IllegalArgumentException.class, WRONG, of -> of.points(shape, 1));
        }
        for (int tincture : new int[] {Integer.MIN_VALUE, -1, 0, 9, 35, Integer.MAX_VALUE}) {
            Twin.refused("no tincture", IllegalArgumentException.class, RIGHT, of -> of.points(0, tincture));
            Twin.refused("no tincture first", IllegalArgumentException.class, WRONG, of -> of.points(3, tincture));
        }
    }

    /** UnsupportedOperationException if the row of words is wrong, an empty one too. */
    private static void refusals() {
        Twin.Maker tooLong = () -> Check.row(3, 3);
        for (Twin.Maker wrong : new Twin.Maker[] {Lands.EMPTY, WRONG, tooLong}) {
            Twin.refused("point", UnsupportedOperationException.class, wrong, of -> of.point(0, 0));
            Twin.refused("point", UnsupportedOperationException.class, wrong, of -> of.point(15, 15));
            Twin.refused("points", UnsupportedOperationException.class, wrong, of -> of.points(0, 1));
            Twin.refused("points", UnsupportedOperationException.class, wrong, of -> of.points(3, 8));
            Twin.refused("breaks", UnsupportedOperationException.class, wrong, Blazonry::breaks);
            for (int group : new int[] {-1, 0, 4}) {
                Twin.refused("drawn", UnsupportedOperationException.class, wrong, of -> of.drawn(group, true));
                Twin.refused("drawn", UnsupportedOperationException.class, wrong, of -> of.drawn(group, false));
            }
        }
    }
}
