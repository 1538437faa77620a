import java.util.ArrayList;
import java.util.Arrays;
import java.util.LinkedHashMap;
import java.util.List;
import java.util.Map;
import java.util.NoSuchElementException;
import java.util.regex.Matcher;
import java.util.regex.Pattern;

/** The document once more, told point by point and without anything kept, to hold the class against it. */
final class Oracle {
    // ---- words

    private static final String ON = "o[0-9]C[A]?[Tsfz]";
    private static final String PLAIN_ON = "o[0-9]C[A]?[Tsf]";
    private static final Pattern GRAMMAR = Pattern.compile(
            "T(" + group("[Tsf]", PLAIN_ON) + "){0,4}"
            + "|(PL?|Q)Ta[Tsf](" + group("[Tsfzc]", ON) + "){0,4}");

    private static String group(String tincture, String on) {
        return "(OL?|R)" + tincture + "(" + on + ")?|[0-9]CA?p?" + tincture + "|wCA?" + tincture;
    }

    private static char kind(int word) {
        if (word >= 1 && word <= 8) {
            return 'T';
        }
        if (word == 9 || word == 10) {
            return 'L';
        }
        if (word >= 11 && word <= 13) {
            return 'P';
        }
        if (word == 14 || word == 15) {
            return 'Q';
        }
        if (word >= 21 && word <= 28) {
            return word == 25 || word == 26 || word == 28 ? 'R' : 'O';
        }
        if (word >= 51 && word <= 58) {
            return 'C';
        }
        if (word >= 61 && word <= 69) {
            return (char) ('0' + word - 60);
        }
        switch (word) {
            case 16: return 'a';
            case 31: return 's';
            case 32: return 'f';
            case 33: return 'z';
            case 35: return 'c';
            case 36: return 'o';
            case 39: return 'w';
            case 41: case 42: case 43: case 44: return 'p';
            case 45: case 46: return 'A';
            default: return '?';
        }
    }

    static int fault(List<Integer> words) {
        StringBuilder kinds = new StringBuilder();
        for (int word : words) {
            kinds.append(kind(word));
        }
        for (int i = 1; i <= kinds.length(); i++) {
            Matcher matcher = GRAMMAR.matcher(kinds.substring(0, i));
            if (!matcher.matches() && !matcher.hitEnd()) {
                return i - 1;
            }
        }
        return GRAMMAR.matcher(kinds).matches() ? -1 : kinds.length();
    }

    static final class Part {
        int ordinary;
        int line;
        int number;
        int charge;
        int attitude;
        int place;
        int tincture;
        Part on;
        int found;
        boolean strewn;
    }

    static final class Told {
        int parting;
        int line;
        int first;
        int second;
        List<Part> parts = new ArrayList<>();
        Map<Integer, Integer> meanings = new LinkedHashMap<>();
    }

    /** What a right row means. */
    static Told read(List<Integer> words) {
        Told told = new Told();
        int last = 0;
        Part part = null;
        Part group = null;
        boolean behindAnd = false;
        for (int i = 0; i < words.size(); i++) {
            int word = words.get(i);
            switch (kind(word)) {
                case 'P': case 'Q': told.parting = word; break;
                case 'a': behindAnd = true; break;
                case 'O': case 'R':
                    part = new Part();
                    part.ordinary = word;
                    group = part;
                    told.parts.add(part);
                    break;
                case 'w':
                    part = new Part();
                    part.strewn = true;
                    part.number = 99;
                    group = part;
                    told.parts.add(part);
                    break;
                case 'o':
                    part = new Part();
                    group.on = part;
                    break;
                case 'C': part.charge = word; break;
                case 'A': part.attitude = word; break;
                case 'p': part.place = word; break;
                case 'L':
                    if (part == null) {
                        told.line = word;
                    } else {
                        part.line = word;
                    }
                    break;
                case 'T': case 's': case 'f': case 'z': case 'c': {
                    boolean isOn = part != null && group.on == part;
                    int meaning = word;
                    if (word == 31) {
                        meaning = last == 35 && isOn ? told.first : last;
                    } else if (word == 32) {
                        meaning = told.first;
                    } else if (word == 33) {
                        meaning = told.second;
                    }
                    last = meaning;
                    told.meanings.put(i, meaning);
                    if (part != null) {
                        part.tincture = meaning;
                        if (!isOn) {
                            group = part;
                        }
                    } else if (behindAnd) {
                        told.second = meaning;
                    } else {
                        told.first = meaning;
                    }
                    break;
                }
                default:
                    if (part == null || part.tincture != 0 || part.charge != 0) {
                        part = new Part();
                        group = part;
                        told.parts.add(part);
                    }
                    part.number = word - 60;
                    break;
            }
        }
        return told;
    }

    // ---- drawing

    static int s(int line, int k) {
        if (k % 4 == 2 || k % 4 == 3) {
            return line == 9 ? 1 : line == 10 ? 2 : 0;
        }
        return 0;
    }

    static boolean second(Told told, int x, int y) {
        switch (told.parting) {
            case 11: return x + s(told.line, y) >= 8;
            case 12: return y + s(told.line, x) >= 8;
            case 13: return y + s(told.line, x) > x;
            case 14: return Math.abs(2 * x - 15) > Math.abs(2 * y - 15);
            case 15: return (x >= 8) ^ (y >= 8);
            default: return false;
        }
    }

    static boolean ordinary(int ordinary, int line, int x, int y) {
        int v;
        switch (ordinary) {
            case 21: v = x + s(line, y); return v >= 6 && v <= 9;
            case 22: v = y + s(line, x); return v >= 6 && v <= 9;
            case 23: v = y - x + s(line, x); return v >= -2 && v <= 2;
            case 24: return y + s(line, x) <= 4;
            case 25: return x == 7 || x == 8 || y == 7 || y == 8;
            case 26: return Math.abs(x - y) <= 1 || Math.abs(x + y - 15) <= 1;
            case 27: v = y + s(line, x) - Math.abs(2 * x - 15) / 2; return v >= 3 && v <= 6;
            default: return x < 2 || y < 2 || x > 13 || y > 13;
        }
    }

    static boolean inShape(int shape, int x, int y) {
        int a = Math.abs(2 * x - 15);
        int b = Math.abs(2 * y - 15);
        switch (shape) {
            case 0: return y < 8 || a <= 31 - 2 * y;
            case 1: return a + b <= 16;
            case 2: return true;
            default: return a * a + b * b <= 240;
        }
    }

    private static final int[] BITS = {186, 341, 146, 56, 495, 511, 434, 244};

    static boolean inCharge(int charge, int attitude, int dx, int dy) {
        int x = attitude == 45 ? 2 - dx : dx;
        int y = attitude == 46 ? 2 - dy : dy;
        return (BITS[charge - 51] >> (8 - (3 * y + x)) & 1) == 1;
    }

    static final class Drawing {
        int[][] at = new int[16][16];
        boolean[][] seconds = new boolean[16][16];
        boolean[][] has = new boolean[16][16];
        int first;
        int second;

        void put(int x, int y, int tincture) {
            at[x][y] = tincture != 35 ? tincture : seconds[x][y] ? first : second;
        }
    }

    static Drawing draw(Told told, int first) {
        Drawing d = new Drawing();
        d.first = first;
        d.second = told.second;
        for (int x = 0; x < 16; x++) {
            for (int y = 0; y < 16; y++) {
                d.seconds[x][y] = second(told, x, y);
                d.at[x][y] = d.seconds[x][y] ? told.second : first;
            }
        }
        for (Part part : told.parts) {
            drawPart(d, part);
        }
        return d;
    }

    static void drawPart(Drawing d, Part part) {
        boolean[][] body = new boolean[16][16];
        if (part.ordinary != 0) {
            for (int x = 0; x < 16; x++) {
                for (int y = 0; y < 16; y++) {
                    body[x][y] = ordinary(part.ordinary, part.line, x, y);
                }
            }
        } else {
            part.found = 0;
            for (int b = 0; b < 16 && part.found < part.number; b++) {
                int column = b % 4;
                int row = b / 4;
                boolean fits = part.place == 0 || part.place == 41 && row <= 1 || part.place == 42 && row >= 2
                        || part.place == 43 && column <= 1 || part.place == 44 && column >= 2;
                if (fits && countIn(d.has, b) == 0) {
                    part.found++;
                    stamp(body, part, b);
                }
            }
        }
        for (int x = 0; x < 16; x++) {
            for (int y = 0; y < 16; y++) {
                if (body[x][y]) {
                    d.put(x, y, part.tincture);
                    d.has[x][y] = true;
                }
            }
        }
        if (part.on != null) {
            boolean[][] on = new boolean[16][16];
            part.on.found = 0;
            for (int b = 0; b < 16 && part.on.found < part.on.number; b++) {
                if (countIn(body, b) >= 5) {
                    part.on.found++;
                    stamp(on, part.on, b);
                }
            }
            for (int x = 0; x < 16; x++) {
                for (int y = 0; y < 16; y++) {
                    if (on[x][y] && body[x][y]) {
                        d.put(x, y, part.on.tincture);
                    }
                }
            }
        }
    }

    private static int countIn(boolean[][] points, int block) {
        int count = 0;
        for (int i = 0; i < 9; i++) {
            count += points[block % 4 * 4 + i % 3][block / 4 * 4 + i / 3] ? 1 : 0;
        }
        return count;
    }

    private static void stamp(boolean[][] points, Part part, int block) {
        for (int i = 0; i < 9; i++) {
            if (inCharge(part.charge, part.attitude, i % 3, i / 3)) {
                points[block % 4 * 4 + i % 3][block / 4 * 4 + i / 3] = true;
            }
        }
    }

    static int unlike(int[][] one, int[][] other) {
        int count = 0;
        for (int i = 0; i < 256; i++) {
            count += one[i % 16][i / 16] != other[i % 16][i / 16] ? 1 : 0;
        }
        return count;
    }

    static int count(int[][] at, int shape, int tincture) {
        int count = 0;
        for (int i = 0; i < 256; i++) {
            count += inShape(shape, i % 16, i / 16) && at[i % 16][i / 16] == tincture ? 1 : 0;
        }
        return count;
    }

    static int breaks(Told told) {
        int count = 0;
        for (Part part : told.parts) {
            if (told.parting == 0 && part.ordinary != 28 && clash(told.first, part.tincture)) {
                count++;
            }
            if (part.on != null && clash(part.tincture, part.on.tincture)) {
                count++;
            }
        }
        return count;
    }

    private static boolean clash(int one, int other) {
        return one <= 2 && other <= 2 || one >= 3 && one <= 7 && other >= 3 && other <= 7;
    }

    // ---- fewest words

    static List<Integer> fewest(List<Integer> words) {
        Told told = read(words);
        int[][] drawn = draw(told, told.first).at;
        List<List<Integer>> heads = new ArrayList<>();
        if (told.parting == 0) {
            heads.add(List.of(told.first));
        } else {
            heads.add(List.of(told.parting, told.first, 16, told.second));
            if (told.line != 0) {
                heads.add(List.of(told.parting, told.line, told.first, 16, told.second));
            }
            heads.add(List.of(told.first));
            heads.add(List.of(told.second));
        }
        List<List<Integer>> all = heads;
        for (Part part : told.parts) {
            List<List<Integer>> next = new ArrayList<>();
            for (List<Integer> head : all) {
                for (List<Integer> tail : tails(part)) {
                    List<Integer> both = new ArrayList<>(head);
                    both.addAll(tail);
                    next.add(both);
                }
            }
            all = next;
        }
        all.sort(Oracle::compare);
        for (List<Integer> candidate : all) {
            if (fault(candidate) == -1) {
                Told again = read(candidate);
                if (unlike(draw(again, again.first).at, drawn) == 0) {
                    return candidate;
                }
            }
        }
        throw new AssertionError("nothing draws the same as " + words);
    }

    private static int compare(List<Integer> one, List<Integer> other) {
        if (one.size() != other.size()) {
            return one.size() - other.size();
        }
        for (int i = 0; i < one.size(); i++) {
            int less = one.get(i) - other.get(i);
            if (less != 0) {
                return less;
            }
        }
        return 0;
    }

    private static List<List<Integer>> tails(Part part) {
        List<List<Integer>> tails = new ArrayList<>();
        tails.add(List.of());
        for (int line : part.line == 0 ? new int[] {0} : new int[] {0, part.line}) {
            for (boolean isOn : part.on == null ? new boolean[] {false} : new boolean[] {false, true}) {
                List<Integer> tail = new ArrayList<>();
                if (part.ordinary != 0) {
                    tail.add(part.ordinary);
                    addIf(tail, line);
                } else {
                    addCharges(tail, part);
                }
                tail.add(part.tincture);
                if (isOn) {
                    tail.add(36);
                    addCharges(tail, part.on);
                    tail.add(part.on.tincture);
                }
                tails.add(tail);
            }
        }
        return tails;
    }

    private static void addCharges(List<Integer> tail, Part part) {
        tail.add(part.strewn ? 39 : 60 + (part.found > 0 ? part.found : part.number));
        tail.add(part.charge);
        addIf(tail, part.attitude);
        addIf(tail, part.place);
    }

    private static void addIf(List<Integer> tail, int word) {
        if (word != 0) {
            tail.add(word);
        }
    }

    static List<Integer> translated(int tradition, List<Integer> words) {
        List<Integer> row = new ArrayList<>();
        for (int word : words) {
            if (tradition == 1 && word == 8) {
                row.add(2);
            } else if (tradition == 3 && word == 39) {
                row.add(69);
            } else if (!(tradition == 2 && (word == 9 || word == 10) || tradition == 3 && (word == 45 || word == 46))) {
                row.add(word);
            }
        }
        return row;
    }

    static int losses(int tradition, List<Integer> words) {
        int lost = 0;
        for (int word : words) {
            lost += translated(tradition, List.of(word)).equals(List.of(word)) ? 0 : 1;
        }
        return lost;
    }

    // ---- persons and arms

    static final class Person {
        int number;
        Person father;
        Person mother;
        boolean man;
        boolean alive = true;
        Person spouse;
        int died;
        Bears kept;
        boolean wasHeiress;
        boolean wasHeir;
        int rank;
        int crest;
        int[] supporters;
        boolean abated;
    }

    static final class Bears {
        final Arms arms;
        final List<Integer> marks;

        Bears(Arms arms, List<Integer> marks) {
            this.arms = arms;
            this.marks = marks;
        }
    }

    static final class Arms {
        int number;
        List<Integer> words;
        Told told;
        int land;
        Person first;
        int year;
        char came;
        Person called;
        int[] honour;
    }

    static final class Judgment {
        int land;
        int distance;
        int year;
        Arms elder;
        Arms younger;
        char letter;
        char before;
        boolean stands = true;
        boolean appealed;
    }

    final List<Integer> row = new ArrayList<>();
    final List<Person> persons = new ArrayList<>();
    final List<Arms> arms = new ArrayList<>();
    final List<Judgment> judgments = new ArrayList<>();
    int year;
    int disclaimed;
    private int deaths;

    private int lineCount(Person man) {
        int count = 0;
        for (Person p : persons) {
            if (p.man && p.father == man) {
                count += (p.alive ? 1 : 0) + lineCount(p);
            }
        }
        return count;
    }

    private boolean heiress(Person p) {
        return !p.man && p.father != null && !p.father.alive && lineCount(p.father) == 0;
    }

    private boolean heir(Person p) {
        if (!p.man || !p.alive || p.father == null || p.father.alive) {
            return false;
        }
        for (Person brother : persons) {
            if (brother.man && brother.father == p.father && brother.number < p.number
                    && (brother.alive || lineCount(brother) > 0)) {
                return false;
            }
        }
        return true;
    }

    private int sonRank(Person p) {
        int rank = 0;
        for (Person q : persons) {
            if (q.man && q.father == p.father && q.number <= p.number) {
                rank++;
            }
        }
        return rank;
    }

    private boolean ofLine(Person p, Person forefather) {
        return p == forefather || p.man && p.father != null && ofLine(p.father, forefather);
    }

    private List<Person> heiresses(Arms a) {
        List<Person> found = new ArrayList<>();
        if (a.came == 'v' || !a.first.man || a.first.alive || lineCount(a.first) > 0) {
            return found;
        }
        Person last = null;
        for (Person p : persons) {
            if (p.man && !p.alive && p.kept != null && p.kept.arms == a && ofLine(p, a.first)) {
                if (last == null || p.kept.marks.size() < last.kept.marks.size()
                        || p.kept.marks.size() == last.kept.marks.size() && p.died > last.died) {
                    last = p;
                }
            }
        }
        for (Person p : persons) {
            if (last != null && !p.man && p.alive && p.father == last) {
                found.add(p);
            }
        }
        return found;
    }

    private Person fallsTo(Arms a) {
        List<Person> found = heiresses(a);
        if (found.size() == 1) {
            return found.get(0);
        }
        return found.contains(a.called) ? a.called : null;
    }

    private boolean abeyance(Arms a) {
        return heiresses(a).size() > 1 && fallsTo(a) == null;
    }

    private Bears bears(Person p) {
        if (!p.alive) {
            return p.kept != null && p.kept.arms.came != 'v' ? p.kept : null;
        }
        for (int i = arms.size() - 1; i >= 0; i--) {
            if (arms.get(i).first == p && arms.get(i).came != 'v') {
                return new Bears(arms.get(i), List.of());
            }
        }
        if (heiress(p)) {
            for (Arms a : arms) {
                if (fallsTo(a) == p) {
                    return new Bears(a, List.of());
                }
            }
        }
        Bears his = p.father == null ? null : bears(p.father);
        if (his == null) {
            return null;
        }
        List<Integer> marks = new ArrayList<>(his.marks);
        if (p.man && !heir(p)) {
            marks.add(sonRank(p));
        }
        return new Bears(his.arms, marks);
    }

    private boolean bearsThese(Person p, Arms a) {
        Bears borne = bears(p);
        return borne != null && borne.arms == a;
    }

    private int bearerCount(Arms a) {
        int count = 0;
        for (Person p : persons) {
            count += p.alive && bearsThese(p, a) ? 1 : 0;
        }
        return count;
    }

    private int crestOf(Person p) {
        if (p.crest != 0) {
            return p.crest;
        }
        Bears own = bears(p);
        boolean isHeir = p.alive ? heir(p) : p.wasHeir;
        return isHeir && own != null && bearsThese(p.father, own.arms) ? crestOf(p.father) : 0;
    }

    // ---- marshalling

    private List<Person> quarterBearers(Person p) {
        List<Person> found = new ArrayList<>();
        if (bears(p) == null) {
            return found;
        }
        found.add(p);
        List<Person> more = new ArrayList<>();
        if (p.father != null) {
            more.addAll(quarterBearers(p.father));
        }
        if (p.mother != null && (heiress(p.mother) || !p.mother.alive && p.mother.wasHeiress)) {
            more.addAll(quarterBearers(p.mother));
        }
        for (Person by : more) {
            boolean isNew = found.size() < 8;
            for (Person earlier : found) {
                isNew &= bears(earlier).arms != bears(by).arms;
            }
            if (isNew) {
                found.add(by);
            }
        }
        return found;
    }

    private static int next(int tincture) {
        switch (tincture) {
            case 1: return 2;
            case 2: return 1;
            case 7: return 3;
            case 8: return 8;
            default: return tincture + 1;
        }
    }

    private static int[][] drawBears(Bears bears) {
        Arms a = bears.arms;
        int first = a.told.first;
        if (a.land == 2) {
            for (int d : bears.marks) {
                for (int i = 0; i < d; i++) {
                    first = next(first);
                }
            }
        }
        Drawing d = draw(a.told, first);
        for (int mark : bears.marks) {
            Part part = new Part();
            if (a.land == 0) {
                part.number = 1;
                part.charge = 50 + mark > 58 ? 58 : 50 + mark;
                part.place = 41;
                part.tincture = first == 5 ? 2 : 5;
                drawPart(d, part);
            } else if (a.land == 1) {
                part.ordinary = 28;
                part.tincture = 2 + mark > 7 ? 7 : 2 + mark;
                drawPart(d, part);
            }
        }
        if (a.honour != null) {
            for (int x = 0; x <= 4; x++) {
                for (int y = 0; y <= 4; y++) {
                    boolean isInside = x >= 1 && x <= 3 && y >= 1 && y <= 3;
                    d.at[x][y] = isInside && inCharge(a.honour[1], 0, x - 1, y - 1) ? a.honour[2] : a.honour[0];
                }
            }
        }
        return d.at;
    }

    private static int[][] plain(Arms a) {
        return drawBears(new Bears(a, List.of()));
    }

    private int[][] shieldOf(Person p) {
        List<Person> by = quarterBearers(p);
        int[][] at = new int[16][16];
        List<int[][]> drawings = new ArrayList<>();
        for (Person q : by) {
            drawings.add(drawBears(bears(q)));
        }
        for (int x = 0; x < 16; x++) {
            for (int y = 0; y < 16; y++) {
                int place = (x < 8 ? 0 : 1) + (y < 8 ? 0 : 2);
                int which = by.size() == 2 ? "0110".charAt(place) - '0' : by.size() == 3 ? place % 3 : place;
                at[x][y] = by.size() == 1 ? drawings.get(0)[x][y] : drawings.get(which)[2 * (x % 8)][2 * (y % 8)];
            }
        }
        if (p.man && p.spouse != null && bears(p.spouse) != null) {
            int[][] hers = shieldOf(p.spouse);
            for (int x = 0; x < 16; x++) {
                for (int y = 0; y < 16; y++) {
                    if (heiress(p.spouse) ? x >= 5 && x <= 10 && y >= 5 && y <= 10 : x >= 8) {
                        at[x][y] = hers[x][y];
                    }
                }
            }
        }
        if (p.alive && p.abated) {
            for (int x = 6; x <= 9; x++) {
                for (int y = 6; y <= 9; y++) {
                    at[x][y] = 7;
                }
            }
        }
        return at;
    }

    // ---- roll

    private int conflictCount(Person p, int land) {
        Told told = read(row);
        int count = 0;
        for (Arms a : arms) {
            boolean isBorne = false;
            for (Person q : persons) {
                isBorne |= q != p && q.alive && bearsThese(q, a);
            }
            count += a.land == land && isBorne && unlike(plain(a), draw(told, told.first).at) < 24 ? 1 : 0;
        }
        return count;
    }

    private int enter(Person p, int land, char came) {
        Arms a = new Arms();
        a.number = arms.size();
        a.words = new ArrayList<>(row);
        a.told = read(a.words);
        a.land = land;
        a.first = p;
        a.year = year;
        a.came = came;
        arms.add(a);
        row.clear();
        return a.number;
    }

    private boolean threeBear(Arms a) {
        if (!bearsThese(a.first, a)) {
            return false;
        }
        for (Person son : persons) {
            for (Person grandson : persons) {
                if (son.man && grandson.man && son.father == a.first && grandson.father == son
                        && bearsThese(son, a) && bearsThese(grandson, a)) {
                    return true;
                }
            }
        }
        return false;
    }

    private int latest(int land, int step) {
        int found = -1;
        for (int j = 0; j < judgments.size(); j++) {
            Judgment judgment = judgments.get(j);
            if (judgment.stands && judgment.land == land && judgment.distance / 8 == step) {
                found = j;
            }
        }
        return found;
    }

    private int judge(Arms elder, Arms younger, int distance, char letter, boolean appealed) {
        Judgment judgment = new Judgment();
        judgment.land = elder.land;
        judgment.distance = distance;
        judgment.year = year;
        judgment.elder = elder;
        judgment.younger = younger;
        judgment.letter = letter;
        judgment.appealed = appealed;
        Arms loser = letter == 'e' ? younger : elder;
        judgment.before = loser.came;
        loser.came = 'v';
        judgments.add(judgment);
        return judgments.size() - 1;
    }

    // ---- the face

    private static void bounds(boolean isRight) {
        if (!isRight) {
            throw new IndexOutOfBoundsException();
        }
    }

    private static void argument(boolean isRight) {
        if (!isRight) {
            throw new IllegalArgumentException();
        }
    }

    private static void operation(boolean isRight) {
        if (!isRight) {
            throw new UnsupportedOperationException();
        }
    }

    private static void element(boolean isRight) {
        if (!isRight) {
            throw new NoSuchElementException();
        }
    }

    private static void state(boolean isRight) {
        if (!isRight) {
            throw new IllegalStateException();
        }
    }

    private Person person(int number) {
        bounds(number >= 0 && number < persons.size());
        return persons.get(number);
    }

    private Arms armsOf(int number) {
        bounds(number >= 0 && number < arms.size());
        return arms.get(number);
    }

    private Judgment judgment(int number) {
        bounds(number >= 0 && number < judgments.size());
        return judgments.get(number);
    }

    private Bears borneBy(Person p) {
        Bears borne = bears(p);
        element(borne != null);
        return borne;
    }

    private static boolean in(int value, int lowest, int highest) {
        return value >= lowest && value <= highest;
    }

    /** The answer of a call, as a text; a boolean argument is told as 0 or 1. */
    Object call(String name, int... a) {
        boolean isRight = fault(row) == -1;
        switch (name) {
            case "type":
                argument(in(a[0], 0, 99));
                state(row.size() < 24);
                row.add(a[0]);
                return row.size();
            case "erase": {
                int size = row.size();
                row.clear();
                return size;
            }
            case "wrongAt":
                return fault(row);
            case "point":
                bounds(in(a[0], 0, 15) && in(a[1], 0, 15));
                operation(isRight);
                return draw(read(row), read(row).first).at[a[0]][a[1]];
            case "points":
                argument(in(a[0], 0, 3) && in(a[1], 1, 8));
                operation(isRight);
                return count(draw(read(row), read(row).first).at, a[0], a[1]);
            case "breaks":
                operation(isRight);
                return breaks(read(row));
            case "drawn": {
                operation(isRight);
                Told told = read(row);
                draw(told, told.first);
                element(in(a[0], 0, told.parts.size() - 1));
                Part part = a[1] == 1 ? told.parts.get(a[0]).on : told.parts.get(a[0]);
                element(part != null && part.ordinary == 0);
                return part.found;
            }
            case "meant":
                operation(isRight);
                element(read(row).meanings.containsKey(a[0]));
                return read(row).meanings.get(a[0]);
            case "fewest":
                operation(isRight);
                return fewest(row).size();
            case "fewestAt":
                operation(isRight);
                element(a[0] >= 0 && a[0] < fewest(row).size());
                return fewest(row).get(a[0]);
            case "losses":
                argument(in(a[0], 0, 3));
                operation(isRight);
                return losses(a[0], row);
            case "translated":
                argument(in(a[0], 0, 3));
                operation(isRight);
                element(in(a[1], 0, translated(a[0], row).size() - 1));
                return translated(a[0], row).get(a[1]);
            default:
                return callKin(name, isRight, a);
        }
    }

    private Object callKin(String name, boolean isRight, int... a) {
        switch (name) {
            case "pass":
                argument(in(a[0], 1, 100));
                state(year + a[0] <= 5000);
                return year += a[0];
            case "birth": {
                Person p = new Person();
                p.father = a[0] == -1 ? null : person(a[0]);
                p.mother = a[1] == -1 ? null : person(a[1]);
                operation((p.father == null || p.father.man) && (p.mother == null || !p.mother.man));
                state(persons.size() < 40);
                p.man = a[2] == 1;
                p.number = persons.size();
                persons.add(p);
                return p.number;
            }
            case "death": {
                Person p = person(a[0]);
                operation(p.alive);
                p.kept = bears(p);
                p.wasHeiress = heiress(p);
                p.wasHeir = heir(p);
                p.alive = false;
                p.died = ++deaths;
                if (p.spouse != null) {
                    p.spouse.spouse = null;
                    p.spouse = null;
                }
                int count = 0;
                for (Arms each : arms) {
                    count += abeyance(each) ? 1 : 0;
                }
                return count;
            }
            case "marry": {
                Person m = person(a[0]);
                Person w = person(a[1]);
                operation(m.man && !w.man && m.alive && w.alive && m.spouse == null && w.spouse == null);
                m.spouse = w;
                w.spouse = m;
                return heiress(w);
            }
            case "lives":
                return person(a[0]).alive;
            case "spouse":
                element(person(a[0]).spouse != null);
                return person(a[0]).spouse.number;
            case "isHeiress":
                return heiress(person(a[0]));
            case "lineOf":
                return person(a[0]).man ? lineCount(person(a[0])) : 0;
            case "grant": {
                Person p = person(a[0]);
                argument(in(a[1], 0, 3));
                operation(isRight && p.alive && conflictCount(p, a[1]) == 0);
                state(arms.size() < 24);
                return enter(p, a[1], 'g');
            }
            case "assume": {
                Person p = person(a[0]);
                argument(in(a[1], 0, 3));
                operation(isRight && p.alive && (bears(p) == null || bears(p).arms.land != a[1]));
                state(arms.size() < 24);
                return enter(p, a[1], 'u');
            }
            default:
                return callArms(name, isRight, a);
        }
    }

    private Object callArms(String name, boolean isRight, int... a) {
        switch (name) {
            case "cameBy":
                return armsOf(a[0]).came;
            case "yearOf":
                return armsOf(a[0]).year;
            case "borne":
                return borneBy(person(a[0])).arms.number;
            case "differences":
                return borneBy(person(a[0])).marks.size();
            case "difference":
                element(in(a[1], 0, borneBy(person(a[0])).marks.size() - 1));
                return borneBy(person(a[0])).marks.get(a[1]);
            case "isInAbeyance":
                return abeyance(armsOf(a[0]));
            case "call": {
                Arms each = armsOf(a[0]);
                Person p = person(a[1]);
                operation(abeyance(each) && heiresses(each).contains(p));
                each.called = p;
                return heiresses(each).size();
            }
            case "isExtinct":
                return bearerCount(armsOf(a[0])) == 0 && !abeyance(armsOf(a[0]));
            case "bearers":
                return bearerCount(armsOf(a[0]));
            case "ofArms":
                armsOf(a[0]);
                bounds(in(a[1], 0, 15) && in(a[2], 0, 15));
                return plain(armsOf(a[0]))[a[1]][a[2]];
            case "ofShield":
                person(a[0]);
                bounds(in(a[1], 0, 15) && in(a[2], 0, 15));
                borneBy(person(a[0]));
                return shieldOf(person(a[0]))[a[1]][a[2]];
            case "shield":
                person(a[0]);
                argument(in(a[1], 0, 3) && in(a[2], 1, 8));
                borneBy(person(a[0]));
                return count(shieldOf(person(a[0])), a[1], a[2]);
            case "quarters":
                return quarterBearers(person(a[0])).size();
            case "quarter":
                element(in(a[1], 0, quarterBearers(person(a[0])).size() - 1));
                return bears(quarterBearers(person(a[0])).get(a[1])).arms.number;
            case "quarterBy":
                element(in(a[1], 0, quarterBearers(person(a[0])).size() - 1));
                return quarterBearers(person(a[0])).get(a[1]).number;
            default:
                return callRoll(name, isRight, a);
        }
    }

    private Object callRoll(String name, boolean isRight, int... a) {
        switch (name) {
            case "distance":
                return unlike(plain(armsOf(a[0])), plain(armsOf(a[1])));
            case "nearest": {
                operation(isRight);
                int[][] drawn = draw(read(row), read(row).first).at;
                Arms nearest = null;
                for (Arms each : arms) {
                    if (each.came != 'v'
                            && (nearest == null || unlike(plain(each), drawn) < unlike(plain(nearest), drawn))) {
                        nearest = each;
                    }
                }
                element(nearest != null);
                return nearest.number;
            }
            case "withWord": {
                int count = 0;
                for (Arms each : arms) {
                    count += each.words.contains(a[0]) ? 1 : 0;
                }
                return count;
            }
            case "conflicts":
                person(a[0]);
                argument(in(a[1], 0, 3));
                operation(isRight);
                return conflictCount(person(a[0]), a[1]);
            case "visit": {
                argument(in(a[0], 0, 3));
                int granted = 0;
                for (Arms each : arms) {
                    if (each.came == 'u' && each.land == a[0]) {
                        boolean is = threeBear(each) || year - each.year >= 60;
                        for (Arms other : arms) {
                            is &= other.came != 'g' || other.land != a[0] || unlike(plain(other), plain(each)) >= 24;
                        }
                        each.came = is ? 'g' : 'v';
                        granted += is ? 1 : 0;
                        disclaimed += is ? 0 : 1;
                    }
                }
                return granted;
            }
            case "disclaimed":
                return disclaimed;
            case "sue": {
                Person p = person(a[0]);
                Person q = person(a[1]);
                operation(p != q && p.alive && q.alive && bears(p) != null && bears(q) != null);
                Arms one = bears(p).arms;
                Arms other = bears(q).arms;
                int distance = unlike(plain(one), plain(other));
                operation(one != other && one.land == other.land && distance < 24);
                state(judgments.size() < 20);
                boolean isElder = one.year < other.year || one.year == other.year && one.number < other.number;
                Arms elder = isElder ? one : other;
                Arms younger = isElder ? other : one;
                int precedent = latest(one.land, distance / 8);
                char letter = precedent >= 0 ? judgments.get(precedent).letter : year - younger.year >= 60 ? 'y' : 'e';
                return judge(elder, younger, distance, letter, false);
            }
            default:
                return callCourt(name, a);
        }
    }

    private Object callCourt(String name, int... a) {
        switch (name) {
            case "judged":
                return judgment(a[0]).letter;
            case "stands":
                return judgment(a[0]).stands;
            case "precedent":
                argument(in(a[0], 0, 3) && in(a[1], 0, 2));
                element(latest(a[0], a[1]) >= 0);
                return latest(a[0], a[1]);
            case "appeal": {
                Judgment old = judgment(a[0]);
                operation(old.stands && year - old.year < 2 && !old.appealed && old.distance >= 12);
                state(judgments.size() < 20);
                old.stands = false;
                (old.letter == 'e' ? old.younger : old.elder).came = old.before;
                return judge(old.elder, old.younger, old.distance, old.letter == 'e' ? 'y' : 'e', true);
            }
            case "setRank": {
                Person p = person(a[0]);
                argument(in(a[1], 0, 4));
                int before = p.rank;
                p.rank = a[1];
                return before;
            }
            case "setCrest": {
                Person p = person(a[0]);
                argument(in(a[1], 51, 58));
                int before = p.crest;
                p.crest = a[1];
                return before;
            }
            case "crest":
                element(person(a[0]).rank >= 1 && crestOf(person(a[0])) != 0);
                return crestOf(person(a[0]));
            case "setSupporters": {
                Person p = person(a[0]);
                argument(in(a[1], 51, 58) && in(a[2], 51, 58));
                boolean before = p.supporters != null;
                p.supporters = new int[] {a[2], a[1]};
                return before;
            }
            case "supporter":
                element(person(a[0]).rank >= 3 && person(a[0]).supporters != null);
                return person(a[0]).supporters[a[1]];
            case "augment": {
                Arms each = armsOf(a[0]);
                argument(in(a[1], 1, 8) && in(a[2], 51, 58) && in(a[3], 1, 8));
                operation(each.came != 'v');
                boolean isFirst = each.honour == null;
                each.honour = Arrays.copyOfRange(a, 1, 4);
                return isFirst;
            }
            case "abate": {
                boolean before = person(a[0]).abated;
                person(a[0]).abated = a[1] == 1;
                return before;
            }
            default:
                return callCounts(name);
        }
    }

    private Object callCounts(String name) {
        switch (name) {
            case "year":
                return year;
            case "persons":
                return persons.size();
            case "arms":
                return arms.size();
            case "allPoints": {
                long sum = 0;
                for (Arms each : arms) {
                    int[][] at = plain(each);
                    for (int x = 0; x < 16; x++) {
                        for (int y = 0; y < 16; y++) {
                            sum += (each.number + 1L) * (16 * y + x + 1) * at[x][y];
                        }
                    }
                }
                return sum;
            }
            case "armigerShare": {
                int living = 0;
                int armigers = 0;
                for (Person p : persons) {
                    living += p.alive ? 1 : 0;
                    armigers += p.alive && bears(p) != null ? 1 : 0;
                }
                if (living == 0) {
                    throw new ArithmeticException();
                }
                return (float) armigers / (float) living;
            }
            case "meanWords": {
                int sum = 0;
                for (Arms each : arms) {
                    sum += each.words.size();
                }
                if (arms.isEmpty()) {
                    throw new ArithmeticException();
                }
                return (double) sum / (double) arms.size();
            }
            case "isSound":
                return true;
            default:
                throw new AssertionError(name);
        }
    }
}
