import java.util.Arrays;
import java.util.NoSuchElementException;

/** A land with its arms: how they are told, drawn, borne, marshalled, granted, sued for and shown. */
public final class Blazonry {
    private static final int SIDE = 16;
    private static final int BLOCKS = 16;
    private static final int BLOCKS_IN_ROW = 4;
    private static final int MOST_WORDS = 24;
    private static final int MOST_GROUPS = 4;
    private static final int MOST_PERSONS = 40;
    private static final int MOST_ARMS = 24;
    private static final int MOST_JUDGMENTS = 20;
    private static final int MOST_QUARTERS = 8;
    private static final int LAST_YEAR = 5000;
    private static final int NEAR = 24;
    private static final int LONG_BORNE = 60;

    private static final int METAL = 2;
    private static final int BLUE = 5;
    private static final int LAST_COLOUR = 7;
    private static final int FUR = 8;
    private static final int WAVY = 9;
    private static final int EMBATTLED = 10;
    private static final int AND = 16;
    private static final int BORDURE = 28;
    private static final int SAME = 31;
    private static final int FIRST = 32;
    private static final int SECOND = 33;
    private static final int COUNTERCHANGED = 35;
    private static final int ON_IT = 36;
    private static final int STREWN = 39;
    private static final int IN_CHIEF = 41;
    private static final int TURNED = 45;
    private static final int OVERTURNED = 46;
    private static final int NUMBERS = 60;
    private static final int ALL_BLOCKS = 16;

    private static final int[] CHARGE_BITS = {186, 341, 146, 56, 495, 511, 434, 244};

    private final Painter painter = new Painter();
    private final Blazon row = new Blazon();
    private final Picture rowPicture = new Picture();
    private final Picture shieldPicture = new Picture();
    private final Teller teller = new Teller(painter);
    private final Kin kin = new Kin();
    private final Roll roll = new Roll(painter);
    private final Bearing bearing = new Bearing(kin, roll);
    private final Honours honours = new Honours(kin, bearing);
    private final Marshal marshal = new Marshal(kin, roll, bearing, honours, painter);
    private final Court court = new Court(roll, bearing);
    private boolean isRowDrawn;
    private boolean isRowTold;
    private int today;

    public Blazonry() {
        row.read();
    }

    // The row of words.

    public int type(int word) throws IllegalArgumentException, IllegalStateException {
        if (word < 0 || word > 99) {
            throw new IllegalArgumentException("no such word");
        }
        if (row.count >= MOST_WORDS) {
            throw new IllegalStateException("the row is full");
        }
        row.add(word);
        row.read();
        forgetRow();
        return row.count;
    }

    public int erase() {
        int count = row.count;
        emptyRow();
        return count;
    }

    public int wrongAt() {
        return row.faultAt;
    }

    public int point(int x, int y) throws IndexOutOfBoundsException, UnsupportedOperationException {
        needPoint(x, y);
        needBlazon();
        drawRow();
        return rowPicture.tinctureAt(x, y);
    }

    public int points(int shape, int tincture) throws IllegalArgumentException, UnsupportedOperationException {
        needShape(shape, tincture);
        needBlazon();
        drawRow();
        return rowPicture.countOf(painter.shapeRows(shape), tincture);
    }

    public int breaks() throws UnsupportedOperationException {
        needBlazon();
        return row.countBreaks();
    }

    public int drawn(int group, boolean isOn) throws UnsupportedOperationException, NoSuchElementException {
        needBlazon();
        if (group < 0 || group >= row.groupCount) {
            throw new NoSuchElementException("no such group");
        }
        Group asked = row.group(group);
        if ((isOn ? asked.onNumber : asked.number) == 0) {
            throw new NoSuchElementException("no such charges");
        }
        drawRow();
        return isOn ? asked.onFound : asked.found;
    }

    public int meant(int index) throws UnsupportedOperationException, NoSuchElementException {
        needBlazon();
        if (row.meaningAt(index) == 0) {
            throw new NoSuchElementException("no word for a tincture");
        }
        return row.meaningAt(index);
    }

    public int fewest() throws UnsupportedOperationException {
        needBlazon();
        tellRow();
        return teller.bestCount;
    }

    public int fewestAt(int index) throws UnsupportedOperationException, NoSuchElementException {
        needBlazon();
        tellRow();
        if (index < 0 || index >= teller.bestCount) {
            throw new NoSuchElementException("no such word");
        }
        return teller.bestAt(index);
    }

    public int losses(int tradition) throws IllegalArgumentException, UnsupportedOperationException {
        needTradition(tradition);
        needBlazon();
        return row.lossesIn(tradition);
    }

    public int translated(int tradition, int index)
            throws IllegalArgumentException, UnsupportedOperationException, NoSuchElementException {
        needTradition(tradition);
        needBlazon();
        int word = row.wordIn(tradition, index);
        if (word == 0) {
            throw new NoSuchElementException("no such word");
        }
        return word;
    }

    // Kin.

    public int pass(int years) throws IllegalArgumentException, IllegalStateException {
        if (years < 1 || years > 100) {
            throw new IllegalArgumentException("no such number of years");
        }
        if (today + years > LAST_YEAR) {
            throw new IllegalStateException("the years are at their end");
        }
        today += years;
        return today;
    }

    public int birth(int father, int mother, boolean isMan)
            throws IndexOutOfBoundsException, UnsupportedOperationException, IllegalStateException {
        if (father != -1) {
            needPerson(father);
        }
        if (mother != -1) {
            needPerson(mother);
        }
        if (father != -1 && !kin.isMan(father) || mother != -1 && kin.isMan(mother)) {
            throw new UnsupportedOperationException("no father, or no mother");
        }
        if (kin.count >= MOST_PERSONS) {
            throw new IllegalStateException("there are too many persons");
        }
        int person = kin.add(father, mother, isMan);
        settle();
        return person;
    }

    public int death(int person) throws IndexOutOfBoundsException, UnsupportedOperationException {
        needPerson(person);
        needAlive(person);
        bearing.keep(person);
        kin.end(person);
        settle();
        return bearing.abeyances();
    }

    public boolean marry(int man, int woman) throws IndexOutOfBoundsException, UnsupportedOperationException {
        needPerson(man);
        needPerson(woman);
        if (!kin.isMan(man) || kin.isMan(woman)) {
            throw new UnsupportedOperationException("no man and woman");
        }
        needAlive(man);
        needAlive(woman);
        if (kin.spouseOf(man) >= 0 || kin.spouseOf(woman) >= 0) {
            throw new UnsupportedOperationException("married");
        }
        kin.join(man, woman);
        return kin.isLastOfLine(woman);
    }

    public boolean lives(int person) throws IndexOutOfBoundsException {
        needPerson(person);
        return kin.isAlive(person);
    }

    public int spouse(int person) throws IndexOutOfBoundsException, NoSuchElementException {
        needPerson(person);
        int other = kin.spouseOf(person);
        if (other < 0) {
            throw new NoSuchElementException("not married");
        }
        return other;
    }

    public boolean isHeiress(int person) throws IndexOutOfBoundsException {
        needPerson(person);
        return kin.isLastOfLine(person);
    }

    public int lineOf(int person) throws IndexOutOfBoundsException {
        needPerson(person);
        return kin.livingLine(person);
    }

    // Arms.

    public int grant(int person, int land) throws IndexOutOfBoundsException, IllegalArgumentException,
            UnsupportedOperationException, IllegalStateException {
        needPerson(person);
        needLand(land);
        needBlazon();
        needAlive(person);
        drawRow();
        if (court.conflictsWith(rowPicture, person, land) > 0) {
            throw new UnsupportedOperationException("too near to arms of this land");
        }
        needRoom();
        int arms = enter(person, land, 'g');
        settle();
        return arms;
    }

    public int assume(int person, int land) throws IndexOutOfBoundsException, IllegalArgumentException,
            UnsupportedOperationException, IllegalStateException {
        needPerson(person);
        needLand(land);
        needBlazon();
        needAlive(person);
        if (roll.landOf(bearing.armsOf(person)) == land) {
            throw new UnsupportedOperationException("bears arms of this land");
        }
        needRoom();
        int arms = enter(person, land, 'u');
        settle();
        return arms;
    }

    public char cameBy(int arms) throws IndexOutOfBoundsException {
        needArms(arms);
        return roll.letterOf(arms);
    }

    public int yearOf(int arms) throws IndexOutOfBoundsException {
        needArms(arms);
        return roll.yearWhen(arms);
    }

    public int borne(int person) throws IndexOutOfBoundsException, NoSuchElementException {
        needPerson(person);
        needBearer(person);
        return bearing.armsOf(person);
    }

    public int differences(int person) throws IndexOutOfBoundsException, NoSuchElementException {
        needPerson(person);
        needBearer(person);
        return bearing.markCount(person);
    }

    public int difference(int person, int index) throws IndexOutOfBoundsException, NoSuchElementException {
        needPerson(person);
        needBearer(person);
        if (index < 0 || index >= bearing.markCount(person)) {
            throw new NoSuchElementException("no such difference");
        }
        return bearing.markAt(person, index);
    }

    public boolean isInAbeyance(int arms) throws IndexOutOfBoundsException {
        needArms(arms);
        return bearing.liesBetween(arms);
    }

    public int call(int arms, int person) throws IndexOutOfBoundsException, UnsupportedOperationException {
        needArms(arms);
        needPerson(person);
        if (!bearing.liesBetween(arms) || !bearing.isLastHeiress(person, arms)) {
            throw new UnsupportedOperationException("nothing to be called to");
        }
        roll.setCalled(arms, person);
        settle();
        return bearing.heiressCount(arms);
    }

    public boolean isExtinct(int arms) throws IndexOutOfBoundsException {
        needArms(arms);
        return bearing.countBearers(arms) == 0 && !bearing.liesBetween(arms);
    }

    public int bearers(int arms) throws IndexOutOfBoundsException {
        needArms(arms);
        return bearing.countBearers(arms);
    }

    public int ofArms(int arms, int x, int y) throws IndexOutOfBoundsException {
        needArms(arms);
        needPoint(x, y);
        return roll.tinctureAt(arms, x, y);
    }

    // Shields and quarters.

    public int ofShield(int person, int x, int y) throws IndexOutOfBoundsException, NoSuchElementException {
        needPerson(person);
        needPoint(x, y);
        needBearer(person);
        marshal.paintShield(shieldPicture, person);
        return shieldPicture.tinctureAt(x, y);
    }

    public int shield(int person, int shape, int tincture)
            throws IndexOutOfBoundsException, IllegalArgumentException, NoSuchElementException {
        needPerson(person);
        needShape(shape, tincture);
        needBearer(person);
        marshal.paintShield(shieldPicture, person);
        return shieldPicture.countOf(painter.shapeRows(shape), tincture);
    }

    public int quarters(int person) throws IndexOutOfBoundsException {
        needPerson(person);
        return marshal.quarterCount(person);
    }

    public int quarter(int person, int index) throws IndexOutOfBoundsException, NoSuchElementException {
        needPerson(person);
        needQuarter(person, index);
        return marshal.armsAt(person, index);
    }

    public int quarterBy(int person, int index) throws IndexOutOfBoundsException, NoSuchElementException {
        needPerson(person);
        needQuarter(person, index);
        return marshal.bearerAt(person, index);
    }

    // The roll, visitations and suits.

    public int distance(int first, int second) throws IndexOutOfBoundsException {
        needArms(first);
        needArms(second);
        return roll.unlikePoints(first, second);
    }

    public int nearest() throws UnsupportedOperationException, NoSuchElementException {
        needBlazon();
        drawRow();
        int arms = roll.nearestTo(rowPicture);
        if (arms < 0) {
            throw new NoSuchElementException("there are no arms");
        }
        return arms;
    }

    public int withWord(int word) {
        return roll.countWithWord(word);
    }

    public int conflicts(int person, int land)
            throws IndexOutOfBoundsException, IllegalArgumentException, UnsupportedOperationException {
        needPerson(person);
        needLand(land);
        needBlazon();
        drawRow();
        return court.conflictsWith(rowPicture, person, land);
    }

    public int visit(int land) throws IllegalArgumentException {
        needLand(land);
        int granted = court.inspect(land, today);
        settle();
        return granted;
    }

    public int disclaimed() {
        return court.disclaimedCount;
    }

    public int sue(int person, int other)
            throws IndexOutOfBoundsException, UnsupportedOperationException, IllegalStateException {
        needPerson(person);
        needPerson(other);
        if (person == other || !kin.isAlive(person) || !kin.isAlive(other)
                || !court.isSuable(bearing.armsOf(person), bearing.armsOf(other))) {
            throw new UnsupportedOperationException("nothing to sue for");
        }
        needDocket();
        int judgment = court.judge(bearing.armsOf(person), bearing.armsOf(other), today);
        settle();
        return judgment;
    }

    public char judged(int judgment) throws IndexOutOfBoundsException {
        needJudgment(judgment);
        return court.letterOf(judgment);
    }

    public boolean stands(int judgment) throws IndexOutOfBoundsException {
        needJudgment(judgment);
        return court.isInForce(judgment);
    }

    public int precedent(int land, int step) throws IllegalArgumentException, NoSuchElementException {
        needLand(land);
        if (step < 0 || step > 2) {
            throw new IllegalArgumentException("no such class");
        }
        int judgment = court.latest(land, step);
        if (judgment < 0) {
            throw new NoSuchElementException("no precedent");
        }
        return judgment;
    }

    public int appeal(int judgment)
            throws IndexOutOfBoundsException, UnsupportedOperationException, IllegalStateException {
        needJudgment(judgment);
        if (!court.isOpenToAppeal(judgment, today)) {
            throw new UnsupportedOperationException("no appeal from it");
        }
        needDocket();
        int next = court.overturn(judgment, today);
        settle();
        return next;
    }

    // Ranks, augmentations and abatements.

    public int setRank(int person, int rank) throws IndexOutOfBoundsException, IllegalArgumentException {
        needPerson(person);
        if (rank < 0 || rank > 4) {
            throw new IllegalArgumentException("no such rank");
        }
        return honours.exchangeRank(person, rank);
    }

    public int setCrest(int person, int charge) throws IndexOutOfBoundsException, IllegalArgumentException {
        needPerson(person);
        needCharge(charge);
        return honours.exchangeCrest(person, charge);
    }

    public int crest(int person) throws IndexOutOfBoundsException, NoSuchElementException {
        needPerson(person);
        int charge = honours.shownCrest(person);
        if (charge == 0) {
            throw new NoSuchElementException("no crest is shown");
        }
        return charge;
    }

    public boolean setSupporters(int person, int right, int left)
            throws IndexOutOfBoundsException, IllegalArgumentException {
        needPerson(person);
        needCharge(right);
        needCharge(left);
        return honours.exchangeSupporters(person, right, left);
    }

    public int supporter(int person, boolean isRight) throws IndexOutOfBoundsException, NoSuchElementException {
        needPerson(person);
        int charge = honours.shownSupporter(person, isRight);
        if (charge == 0) {
            throw new NoSuchElementException("no supporter is shown");
        }
        return charge;
    }

    public boolean augment(int arms, int tincture, int charge, int charged)
            throws IndexOutOfBoundsException, IllegalArgumentException, UnsupportedOperationException {
        needArms(arms);
        needTincture(tincture);
        needTincture(charged);
        needCharge(charge);
        if (roll.isVoid(arms)) {
            throw new UnsupportedOperationException("the arms are void");
        }
        return roll.addHonour(arms, tincture, charge, charged);
    }

    public boolean abate(int person, boolean is) throws IndexOutOfBoundsException {
        needPerson(person);
        return honours.exchangeAbated(person, is);
    }

    // Counts and checks.

    public int year() {
        return today;
    }

    public int persons() {
        return kin.count;
    }

    public int arms() {
        return roll.count;
    }

    public long allPoints() {
        return roll.weighAll();
    }

    public float armigerShare() throws ArithmeticException {
        int living = kin.countLiving();
        if (living == 0) {
            throw new ArithmeticException("nobody lives");
        }
        return (float) bearing.countArmigers() / (float) living;
    }

    public double meanWords() throws ArithmeticException {
        if (roll.count == 0) {
            throw new ArithmeticException("there are no arms");
        }
        return (double) roll.countWords() / (double) roll.count;
    }

    public boolean isSound() {
        return areToldBack() && areSoughtBack() && marshal.areProved() && bearing.areVoidUnborne();
    }

    // What the calls above share.

    /** Finds anew who bears and quarters what; it is due behind each call that may change this. */
    private void settle() {
        bearing.settle();
        marshal.settle();
    }

    private void forgetRow() {
        isRowDrawn = false;
        isRowTold = false;
    }

    private void emptyRow() {
        row.clear();
        row.read();
        forgetRow();
    }

    private void drawRow() {
        if (!isRowDrawn) {
            painter.paintBlazon(rowPicture, row, row.first);
            isRowDrawn = true;
        }
    }

    private void tellRow() {
        drawRow();
        if (!isRowTold) {
            teller.tell(row, rowPicture);
            isRowTold = true;
        }
    }

    private int enter(int person, int land, char letter) {
        int arms = roll.add(row, person, land, today, letter);
        emptyRow();
        return arms;
    }

    private boolean areToldBack() {
        for (int a = 0; a < roll.count; a++) {
            if (!roll.isKnownTold(a)) {
                // The teller holds one answer only, so that of the row has to be found anew.
                isRowTold = false;
                if (!teller.tellsWell(roll.blazonOf(a))) {
                    return false;
                }
                roll.setKnownTold(a);
            }
        }
        return true;
    }

    private boolean areSoughtBack() {
        for (int a = 0; a < roll.count; a++) {
            if (!painter.isSoughtBack(roll.blazonOf(a), roll.honourOf(a), roll.rowsOf(a))) {
                return false;
            }
        }
        return true;
    }

    private void needPoint(int x, int y) {
        if (x < 0 || x >= SIDE || y < 0 || y >= SIDE) {
            throw new IndexOutOfBoundsException("no such point");
        }
    }

    private void needPerson(int person) {
        if (person < 0 || person >= kin.count) {
            throw new IndexOutOfBoundsException("no such person");
        }
    }

    private void needArms(int arms) {
        if (arms < 0 || arms >= roll.count) {
            throw new IndexOutOfBoundsException("no such arms");
        }
    }

    private void needJudgment(int judgment) {
        if (judgment < 0 || judgment >= court.count) {
            throw new IndexOutOfBoundsException("no such judgment");
        }
    }

    private void needLand(int land) {
        if (land < 0 || land > 3) {
            throw new IllegalArgumentException("no such land");
        }
    }

    private void needTradition(int tradition) {
        if (tradition < 0 || tradition > 3) {
            throw new IllegalArgumentException("no such tradition");
        }
    }

    private void needShape(int shape, int tincture) {
        if (shape < 0 || shape > 3) {
            throw new IllegalArgumentException("no such shape");
        }
        needTincture(tincture);
    }

    private void needTincture(int tincture) {
        if (tincture < 1 || tincture > FUR) {
            throw new IllegalArgumentException("no such tincture");
        }
    }

    private void needCharge(int charge) {
        if (charge < 51 || charge > 58) {
            throw new IllegalArgumentException("no such charge");
        }
    }

    private void needBlazon() {
        if (row.faultAt >= 0) {
            throw new UnsupportedOperationException("the row of words is wrong");
        }
    }

    private void needAlive(int person) {
        if (!kin.isAlive(person)) {
            throw new UnsupportedOperationException("this one is dead");
        }
    }

    private void needBearer(int person) {
        if (bearing.armsOf(person) < 0) {
            throw new NoSuchElementException("there are no arms");
        }
    }

    private void needQuarter(int person, int index) {
        if (index < 0 || index >= marshal.quarterCount(person)) {
            throw new NoSuchElementException("no such quarter");
        }
    }

    private void needRoom() {
        if (roll.count >= MOST_ARMS) {
            throw new IllegalStateException("there are too many arms");
        }
    }

    private void needDocket() {
        if (court.count >= MOST_JUDGMENTS) {
            throw new IllegalStateException("there are too many judgments");
        }
    }

    /** One group of a blazon, its tinctures as they are meant; the number 16 stands for 'strewn with'. */
    private static final class Group {
        int ordinary;
        int line;
        int tincture;
        int number;
        int charge;
        int attitude;
        int place;
        int onNumber;
        int onCharge;
        int onAttitude;
        int onTincture;
        int found;
        int onFound;

        void clear() {
            ordinary = 0;
            line = 0;
            tincture = 0;
            number = 0;
            charge = 0;
            attitude = 0;
            place = 0;
            found = 0;
            clearOn();
        }

        void clearOn() {
            onNumber = 0;
            onCharge = 0;
            onAttitude = 0;
            onTincture = 0;
            onFound = 0;
        }

        /** Takes over a group, but with as many charges as were drawn of it, if any were. */
        void takeAsDrawn(Group other) {
            ordinary = other.ordinary;
            line = other.line;
            tincture = other.tincture;
            number = other.number < ALL_BLOCKS && other.found > 0 ? other.found : other.number;
            charge = other.charge;
            attitude = other.attitude;
            place = other.place;
            onNumber = other.onFound > 0 ? other.onFound : other.onNumber;
            onCharge = other.onCharge;
            onAttitude = other.onAttitude;
            onTincture = other.onTincture;
        }

        /** Puts the words of the group into a row and returns the index behind them. */
        int tellTo(int[] words, int from) {
            int at = from;
            if (ordinary != 0) {
                at = put(words, at, ordinary);
                at = put(words, at, line);
                at = put(words, at, tincture);
                if (onNumber != 0) {
                    at = put(words, at, ON_IT);
                    at = put(words, at, NUMBERS + onNumber);
                    at = put(words, at, onCharge);
                    at = put(words, at, onAttitude);
                    at = put(words, at, onTincture);
                }
                return at;
            }
            at = put(words, at, number == ALL_BLOCKS ? STREWN : NUMBERS + number);
            at = put(words, at, charge);
            at = put(words, at, attitude);
            at = put(words, at, place);
            return put(words, at, tincture);
        }

        private static int put(int[] words, int at, int word) {
            if (word == 0 || at < 0 || at >= words.length) {
                return at;
            }
            words[at] = word;
            return at + 1;
        }
    }

    /** A row of words, and what they mean if they are a blazon. */
    private static final class Blazon {
        private final int[] words = new int[MOST_WORDS];
        private final int[] meanings = new int[MOST_WORDS];
        private final Group[] groups = new Group[MOST_GROUPS];
        private int cursor;
        private int last;
        int count;
        int faultAt;
        int parting;
        int line;
        int first;
        int second;
        int groupCount;

        Blazon() {
            for (int g = 0; g < MOST_GROUPS; g++) {
                groups[g] = new Group();
            }
        }

        Group group(int index) {
            return groups[index & 3];
        }

        int wordAt(int index) {
            return index >= 0 && index < count && index < MOST_WORDS ? words[index] : 0;
        }

        int meaningAt(int index) {
            return index >= 0 && index < count && index < MOST_WORDS ? meanings[index] : 0;
        }

        void clear() {
            count = 0;
        }

        void add(int word) {
            if (count >= 0 && count < MOST_WORDS) {
                words[count] = word;
                count++;
            }
        }

        void takeWords(int[] from, int many) {
            count = 0;
            for (int i = 0; i < many && i < from.length; i++) {
                add(from[i]);
            }
        }

        boolean holdsWord(int word) {
            for (int i = 0; i < count && i < MOST_WORDS; i++) {
                if (words[i] == word) {
                    return true;
                }
            }
            return false;
        }

        /** Reads the words; where they are wrong, faultAt tells, and what was read is of no use. */
        void read() {
            cursor = 0;
            last = 0;
            faultAt = -1;
            parting = 0;
            line = 0;
            first = 0;
            second = 0;
            groupCount = 0;
            Arrays.fill(meanings, 0);
            if (!readField()) {
                faultAt = cursor;
                return;
            }
            while (groupCount < MOST_GROUPS && cursor < count) {
                Group group = groups[groupCount & 3];
                group.clear();
                if (!readGroup(group)) {
                    faultAt = cursor;
                    return;
                }
                groupCount++;
            }
            if (cursor < count) {
                faultAt = cursor;
            }
        }

        private boolean readField() {
            int word = wordAt(cursor);
            if (word >= 11 && word <= 15) {
                parting = word;
                cursor++;
                line = parting < 14 ? takeIn(WAVY, EMBATTLED) : 0;
            }
            first = takeTincture(false);
            if (first == 0 || parting == 0) {
                return first != 0;
            }
            if (takeIn(AND, AND) == 0) {
                return false;
            }
            second = takeTincture(false);
            return second != 0;
        }

        private boolean readGroup(Group group) {
            group.ordinary = takeIn(21, BORDURE);
            if (group.ordinary != 0) {
                return readOrdinary(group);
            }
            boolean isStrewn = takeIn(STREWN, STREWN) != 0;
            group.number = isStrewn ? ALL_BLOCKS : Math.max(takeIn(NUMBERS + 1, NUMBERS + 9) - NUMBERS, 0);
            if (group.number == 0) {
                return false;
            }
            group.charge = takeIn(51, 58);
            if (group.charge == 0) {
                return false;
            }
            group.attitude = takeIn(TURNED, OVERTURNED);
            group.place = isStrewn ? 0 : takeIn(IN_CHIEF, 44);
            group.tincture = takeTincture(false);
            return group.tincture != 0;
        }

        private boolean readOrdinary(Group group) {
            boolean hasLine = group.ordinary != 25 && group.ordinary != 26 && group.ordinary != BORDURE;
            group.line = hasLine ? takeIn(WAVY, EMBATTLED) : 0;
            group.tincture = takeTincture(false);
            if (group.tincture == 0 || takeIn(ON_IT, ON_IT) == 0) {
                return group.tincture != 0;
            }
            group.onNumber = Math.max(takeIn(NUMBERS + 1, NUMBERS + 9) - NUMBERS, 0);
            if (group.onNumber == 0) {
                return false;
            }
            group.onCharge = takeIn(51, 58);
            if (group.onCharge == 0) {
                return false;
            }
            group.onAttitude = takeIn(TURNED, OVERTURNED);
            group.onTincture = takeTincture(true);
            return group.onTincture != 0;
        }

        /** Takes the next word if it is one of these; otherwise 0, and the word stays. */
        private int takeIn(int lowest, int highest) {
            int word = wordAt(cursor);
            if (word < lowest || word > highest) {
                return 0;
            }
            cursor++;
            return word;
        }

        private int takeTincture(boolean isOn) {
            int meaning = meaningOf(wordAt(cursor), isOn);
            if (meaning == 0 || cursor < 0 || cursor >= MOST_WORDS) {
                return 0;
            }
            meanings[cursor] = meaning;
            last = meaning;
            cursor++;
            return meaning;
        }

        /** What a word means as a tincture, here; 0 if it does not fit, as what it reaches for is not told. */
        private int meaningOf(int word, boolean isOn) {
            if (word >= 1 && word <= FUR) {
                return word;
            }
            switch (word) {
                case SAME:
                    return isOn && last == COUNTERCHANGED ? first : last;
                case FIRST:
                    return first;
                case SECOND:
                    return second;
                case COUNTERCHANGED:
                    return second != 0 && !isOn ? COUNTERCHANGED : 0;
                default:
                    return 0;
            }
        }

        int countBreaks() {
            int broken = 0;
            for (int g = 0; g < groupCount && g < MOST_GROUPS; g++) {
                Group group = groups[g];
                if (parting == 0 && group.ordinary != BORDURE && isSameKind(group.tincture, first)) {
                    broken++;
                }
                if (group.onNumber != 0 && isSameKind(group.onTincture, group.tincture)) {
                    broken++;
                }
            }
            return broken;
        }

        private static boolean isSameKind(int one, int other) {
            return one >= 1 && other >= 1 && one < FUR && other < FUR && one <= METAL == other <= METAL;
        }

        int lossesIn(int tradition) {
            int lost = 0;
            for (int i = 0; i < count; i++) {
                int word = wordAt(i);
                if (inTradition(tradition, word) != word) {
                    lost++;
                }
            }
            return lost;
        }

        /** The word at an index of the row put into a tradition; 0 if there is none. */
        int wordIn(int tradition, int index) {
            int at = 0;
            for (int i = 0; i < count; i++) {
                int word = inTradition(tradition, wordAt(i));
                if (word != 0) {
                    if (at == index) {
                        return word;
                    }
                    at++;
                }
            }
            return 0;
        }

        private static int inTradition(int tradition, int word) {
            switch (tradition) {
                case 1:
                    return word == FUR ? METAL : word;
                case 2:
                    return word == WAVY || word == EMBATTLED ? 0 : word;
                case 3:
                    return word == TURNED || word == OVERTURNED ? 0 : word == STREWN ? NUMBERS + 9 : word;
                default:
                    return word;
            }
        }
    }

    /** Points with their tinctures, four bits for each one, and what later groups have to know of the earlier ones. */
    private static final class Picture {
        private static final long EACH = 0x1111111111111111L;

        final long[] rows = new long[SIDE];
        final int[] taken = new int[SIDE];
        private final long[] seconds = new long[SIDE];
        private int first;
        private int second;

        void begin(int[] secondRows, int firstTincture, int secondTincture) {
            first = firstTincture;
            second = secondTincture;
            Arrays.fill(taken, 0);
            for (int y = 0; y < SIDE && y < secondRows.length; y++) {
                long there = spread(secondRows[y]);
                seconds[y] = there;
                rows[y] = (EACH & ~there) * first | there * second;
            }
        }

        void copyFrom(Picture other) {
            first = other.first;
            second = other.second;
            System.arraycopy(other.rows, 0, rows, 0, SIDE);
            System.arraycopy(other.taken, 0, taken, 0, SIDE);
            System.arraycopy(other.seconds, 0, seconds, 0, SIDE);
        }

        void putRows(int[] masks, int tincture) {
            for (int y = 0; y < SIDE && y < masks.length; y++) {
                long there = spread(masks[y]);
                long colours = tincture == COUNTERCHANGED
                        ? (there & seconds[y]) * first | (there & ~seconds[y]) * second
                        : there * tincture;
                rows[y] = rows[y] & ~(there * 15) | colours;
            }
        }

        void take(int[] masks) {
            for (int y = 0; y < SIDE && y < masks.length; y++) {
                taken[y] |= masks[y];
            }
        }

        /** Puts points of another picture at the same places here. */
        void overlay(Picture other, int fromY, int toY, int mask) {
            long there = spread(mask) * 15;
            for (int y = Math.max(fromY, 0); y <= toY && y < SIDE; y++) {
                rows[y] = rows[y] & ~there | other.rows[y] & there;
            }
        }

        /** Puts each second point of each second row of another picture into a quarter here. */
        void quarterFrom(Picture other, int place) {
            int shift = (place & 1) * 32;
            int down = (place & 2) * 4;
            for (int y = 0; y < 8; y++) {
                long bits = other.rows[2 * y] & 0x0F0F0F0F0F0F0F0FL;
                bits = (bits | bits >>> 4) & 0x00FF00FF00FF00FFL;
                bits = (bits | bits >>> 8) & 0x0000FFFF0000FFFFL;
                bits = (bits | bits >>> 16) & 0x00000000FFFFFFFFL;
                rows[y + down] = rows[y + down] & ~(0xFFFFFFFFL << shift) | bits << shift;
            }
        }

        int tinctureAt(int x, int y) {
            return inRow(rows[y & 15], x);
        }

        static int inRow(long row, int x) {
            return (int) (row >>> 4 * (x & 15)) & 15;
        }

        int countOf(int[] shape, int tincture) {
            int count = 0;
            for (int y = 0; y < SIDE && y < shape.length; y++) {
                long unlike = unlikeOnes(rows[y], EACH * tincture);
                count += Long.bitCount(spread(shape[y]) & ~unlike);
            }
            return count;
        }

        static int countUnlike(long[] ones, long[] others) {
            int count = 0;
            for (int y = 0; y < SIDE && y < ones.length && y < others.length; y++) {
                count += Long.bitCount(unlikeOnes(ones[y], others[y]));
            }
            return count;
        }

        /** A bit for each point whose four bits differ. */
        private static long unlikeOnes(long one, long other) {
            long bits = one ^ other;
            bits |= bits >>> 2;
            bits |= bits >>> 1;
            return bits & EACH;
        }

        /** Moves each of 16 bits to the lowest of its point's four. */
        private static long spread(int mask) {
            long bits = mask & 0xFFFF;
            bits = (bits | bits << 24) & 0x000000FF000000FFL;
            bits = (bits | bits << 12) & 0x000F000F000F000FL;
            bits = (bits | bits << 6) & 0x0303030303030303L;
            return (bits | bits << 3) & EACH;
        }
    }

    /** The rows of points that words have, and how they are put on a picture. */
    private static final class Painter {
        private final int[][] partings = new int[15][SIDE];
        private final int[][] ordinaries = new int[24][SIDE];
        private final int[][] shapes = new int[4][SIDE];
        private final int[][] charges = new int[24][3];
        private final int[] nothing = new int[SIDE];
        private final int[] body = new int[SIDE];
        private final int[] on = new int[SIDE];
        private final int[][] layers = new int[2 * MOST_GROUPS + 2][SIDE];
        private final int[] layerTinctures = new int[2 * MOST_GROUPS + 2];
        private final int[] open = new int[SIDE];
        private final Group mark = new Group();
        private final Picture canvas = new Picture();
        private int layerCount;

        Painter() {
            for (int y = 0; y < SIDE; y++) {
                for (int x = 0; x < SIDE; x++) {
                    fillPoint(x, y);
                }
            }
            for (int c = 0; c < 8; c++) {
                for (int point = 0; point < 9; point++) {
                    if ((CHARGE_BITS[c] >> 8 - point & 1) != 0) {
                        charges[3 * c][point / 3] |= 1 << point % 3;
                        charges[3 * c + 1][point / 3] |= 1 << 2 - point % 3;
                        charges[3 * c + 2][2 - point / 3] |= 1 << point % 3;
                    }
                }
            }
        }

        private void fillPoint(int x, int y) {
            for (int line = 0; line < 3; line++) {
                for (int p = 0; p < 5; p++) {
                    partings[3 * p + line][y & 15] |= isSecond(11 + p, line, x, y) ? 1 << x : 0;
                }
                for (int o = 0; o < 8; o++) {
                    ordinaries[3 * o + line][y & 15] |= isOnOrdinary(21 + o, line, x, y) ? 1 << x : 0;
                }
            }
            for (int s = 0; s < 4; s++) {
                shapes[s][y & 15] |= isInShape(s, x, y) ? 1 << x : 0;
            }
        }

        private static boolean isSecond(int parting, int line, int x, int y) {
            switch (parting) {
                case 11:
                    return x + shift(line, y) >= 8;
                case 12:
                    return y + shift(line, x) >= 8;
                case 13:
                    return y + shift(line, x) > x;
                case 14:
                    return Math.abs(2 * x - 15) > Math.abs(2 * y - 15);
                default:
                    return x >= 8 != y >= 8;
            }
        }

        private static boolean isOnOrdinary(int ordinary, int line, int x, int y) {
            switch (ordinary) {
                case 21:
                    return isFromTo(x + shift(line, y), 6, 9);
                case 22:
                    return isFromTo(y + shift(line, x), 6, 9);
                case 23:
                    return isFromTo(y - x + shift(line, x), -2, 2);
                case 24:
                    return y + shift(line, x) <= 4;
                case 25:
                    return isFromTo(x, 7, 8) || isFromTo(y, 7, 8);
                case 26:
                    return isFromTo(x - y, -1, 1) || isFromTo(x + y - 15, -1, 1);
                case 27:
                    return isFromTo(y + shift(line, x) - Math.abs(2 * x - 15) / 2, 3, 6);
                default:
                    return !isFromTo(x, 2, 13) || !isFromTo(y, 2, 13);
            }
        }

        private static boolean isInShape(int shape, int x, int y) {
            int across = Math.abs(2 * x - 15);
            int down = Math.abs(2 * y - 15);
            switch (shape) {
                case 0:
                    return y < 8 || across <= 31 - 2 * y;
                case 1:
                    return across + down <= 16;
                case 2:
                    return true;
                default:
                    return across * across + down * down <= 240;
            }
        }

        private static boolean isFromTo(int value, int lowest, int highest) {
            return value >= lowest && value <= highest;
        }

        /** How far a line, 0 straight, 1 wavy, 2 embattled, is shifted at k. */
        private static int shift(int line, int k) {
            return k % 4 >= 2 ? line : 0;
        }

        private static int lineIndex(int line) {
            return line == WAVY ? 1 : line == EMBATTLED ? 2 : 0;
        }

        int[] shapeRows(int shape) {
            return shape >= 0 && shape < 4 ? shapes[shape] : nothing;
        }

        private int[] partingRows(int parting, int line) {
            int index = 3 * (parting - 11) + lineIndex(line);
            return index >= 0 && index < 15 ? partings[index] : nothing;
        }

        private int[] ordinaryRows(int ordinary, int line) {
            int index = 3 * (ordinary - 21) + lineIndex(line);
            return index >= 0 && index < 24 ? ordinaries[index] : nothing;
        }

        private int[] chargeRows(int charge, int attitude) {
            int turn = attitude == TURNED ? 1 : attitude == OVERTURNED ? 2 : 0;
            int index = 3 * (charge - 51) + turn;
            return index >= 0 && index < 24 ? charges[index] : nothing;
        }

        void paintBlazon(Picture picture, Blazon blazon, int first) {
            paintField(picture, blazon.parting, blazon.line, first, blazon.second);
            for (int g = 0; g < blazon.groupCount && g < MOST_GROUPS; g++) {
                paintGroup(picture, blazon.group(g));
            }
        }

        void paintField(Picture picture, int parting, int line, int first, int second) {
            picture.begin(partingRows(parting, line), first, second);
        }

        /** Paints a group over what is there; body and on keep its points, the group how many were found. */
        void paintGroup(Picture picture, Group group) {
            Arrays.fill(on, 0);
            if (group.ordinary == 0) {
                layCharges(picture.taken, group);
            } else {
                int[] from = ordinaryRows(group.ordinary, group.line);
                System.arraycopy(from, 0, body, 0, Math.min(from.length, SIDE));
            }
            picture.putRows(body, group.tincture);
            picture.take(body);
            if (group.onNumber > 0) {
                layOnBody(group);
                picture.putRows(on, group.onTincture);
            }
        }

        private void layCharges(int[] taken, Group group) {
            Arrays.fill(body, 0);
            int[] charge = chargeRows(group.charge, group.attitude);
            group.found = 0;
            for (int b = 0; b < BLOCKS && group.found < group.number; b++) {
                int top = b / BLOCKS_IN_ROW * 4;
                int left = b % BLOCKS_IN_ROW * 4;
                int points = (taken[top] | taken[top + 1] | taken[top + 2]) & 7 << left;
                if (points == 0 && isAtPlace(group.place, top, left)) {
                    stamp(body, charge, top, left);
                    group.found++;
                }
            }
        }

        private static boolean isAtPlace(int place, int top, int left) {
            switch (place) {
                case 41:
                    return top < 8;
                case 42:
                    return top >= 8;
                case 43:
                    return left < 8;
                case 44:
                    return left >= 8;
                default:
                    return true;
            }
        }

        private void layOnBody(Group group) {
            int[] charge = chargeRows(group.onCharge, group.onAttitude);
            group.onFound = 0;
            for (int b = 0; b < BLOCKS && group.onFound < group.onNumber; b++) {
                int top = b / BLOCKS_IN_ROW * 4;
                int left = b % BLOCKS_IN_ROW * 4;
                int points = 0;
                for (int r = 0; r < 3; r++) {
                    points += Integer.bitCount(body[top + r] & 7 << left);
                }
                if (points >= 5) {
                    stamp(on, charge, top, left);
                    group.onFound++;
                }
            }
            for (int y = 0; y < SIDE; y++) {
                on[y] &= body[y];
            }
        }

        private static void stamp(int[] rows, int[] charge, int top, int left) {
            for (int r = 0; r < 3 && r < charge.length; r++) {
                rows[top + r & 15] |= charge[r] << left;
            }
        }

        /** The first tincture of the field, as it is with differences by the custom of a land. */
        static int firstBorne(int land, int first, int[] marks, int markCount) {
            int steps = 0;
            for (int i = 0; i < markCount && i < marks.length; i++) {
                steps += marks[i];
            }
            if (land != 2 || first >= FUR || steps < 0) {
                return first;
            }
            return first <= METAL ? 1 + (first - 1 + steps) % 2 : 3 + (first - 3 + steps) % 5;
        }

        void paintMarks(Picture picture, int land, int first, int[] marks, int markCount) {
            for (int i = 0; i < markCount && i < marks.length && land < 2; i++) {
                mark.clear();
                if (land == 0) {
                    mark.number = 1;
                    mark.charge = Math.min(50 + marks[i], 58);
                    mark.place = IN_CHIEF;
                    mark.tincture = first == BLUE ? METAL : BLUE;
                } else {
                    mark.ordinary = BORDURE;
                    mark.tincture = Math.min(2 + marks[i], LAST_COLOUR);
                }
                paintGroup(picture, mark);
            }
        }

        static int honourOf(int tincture, int charge, int charged) {
            return tincture | charge << 8 | charged << 16;
        }

        void paintHonour(Picture picture, int honour) {
            if (honour != 0) {
                layHonour(honour);
                picture.putRows(body, honour & 255);
                picture.putRows(on, honour >> 16 & 255);
            }
        }

        private void layHonour(int honour) {
            for (int y = 0; y < SIDE; y++) {
                body[y] = y <= 4 ? 31 : 0;
                on[y] = 0;
            }
            stamp(on, chargeRows(honour >> 8 & 255, 0), 1, 1);
        }

        /** Whether rows have each point as it is found when the layers are gone through from the last one back. */
        boolean isSoughtBack(Blazon blazon, int honour, long[] rows) {
            layerCount = 0;
            paintField(canvas, blazon.parting, blazon.line, blazon.first, blazon.second);
            for (int g = 0; g < blazon.groupCount && g < MOST_GROUPS; g++) {
                Group group = blazon.group(g);
                paintGroup(canvas, group);
                addLayers(group.tincture, group.onTincture);
            }
            if (honour != 0) {
                layHonour(honour);
                addLayers(honour & 255, honour >> 16 & 255);
            }
            paintField(canvas, blazon.parting, blazon.line, blazon.first, blazon.second);
            Arrays.fill(open, 0xFFFF);
            for (int i = layerCount - 1; i >= 0; i--) {
                paintOpen(layers[i], layerTinctures[i]);
            }
            return Picture.countUnlike(canvas.rows, rows) == 0;
        }

        private void addLayers(int tincture, int onTincture) {
            if (layerCount < 0 || layerCount + 1 >= layers.length) {
                return;
            }
            System.arraycopy(body, 0, layers[layerCount], 0, SIDE);
            System.arraycopy(on, 0, layers[layerCount + 1], 0, SIDE);
            layerTinctures[layerCount] = tincture;
            layerTinctures[layerCount + 1] = onTincture;
            layerCount += 2;
        }

        private void paintOpen(int[] layer, int tincture) {
            for (int y = 0; y < SIDE && y < layer.length; y++) {
                body[y] = layer[y] & open[y];
                open[y] &= ~layer[y];
            }
            canvas.putRows(body, tincture);
        }
    }

    /** Looks for the fewest words that draw the same as a blazon. */
    private static final class Teller {
        private static final int FIELD_WAYS = 4;
        private static final int GROUP_WAYS = 5;
        private static final int MOST_STEPS = 100000;

        private final Painter painter;
        private final Picture[] levels = new Picture[MOST_GROUPS + 1];
        private final int[] lengths = new int[MOST_GROUPS + 1];
        private final int[] ways = new int[MOST_GROUPS + 1];
        private final int[] words = new int[MOST_WORDS];
        private final int[] best = new int[MOST_WORDS];
        private final Group trial = new Group();
        private final Picture target = new Picture();
        private final Blazon retold = new Blazon();
        private boolean isFieldParted;
        int bestCount;

        Teller(Painter painter) {
            this.painter = painter;
            for (int i = 0; i <= MOST_GROUPS; i++) {
                levels[i] = new Picture();
            }
        }

        int bestAt(int index) {
            return index >= 0 && index < bestCount && index < MOST_WORDS ? best[index] : 0;
        }

        /** Goes through all ways to tell the field and each group, as far as they have not too many words. */
        void tell(Blazon told, Picture drawn) {
            bestCount = MOST_WORDS + 1;
            int level = 0;
            ways[0] = -1;
            for (int step = 0; step < MOST_STEPS && level >= 0 && level <= MOST_GROUPS; step++) {
                ways[level]++;
                if (ways[level] >= (level == 0 ? FIELD_WAYS : GROUP_WAYS)) {
                    level--;
                } else if (level == 0 ? tryField(told, ways[0]) : tryGroup(told.group(level - 1), level, ways[level])) {
                    if (level == told.groupCount) {
                        judge(drawn, level);
                    } else if (level < MOST_GROUPS) {
                        level++;
                        ways[level] = -1;
                    }
                }
            }
        }

        private boolean tryField(Blazon told, int way) {
            boolean isParted = told.parting != 0;
            if (way > 0 && !isParted || way == 1 && told.line == 0) {
                return false;
            }
            isFieldParted = isParted && way < 2;
            int at = 0;
            int line = way == 0 ? told.line : 0;
            if (isFieldParted) {
                at = Group.put(words, at, told.parting);
                at = Group.put(words, at, line);
            }
            int first = way == 3 ? told.second : told.first;
            at = Group.put(words, at, first);
            if (isFieldParted) {
                at = Group.put(words, at, AND);
                at = Group.put(words, at, told.second);
            }
            lengths[0] = at;
            int parting = isFieldParted ? told.parting : 0;
            painter.paintField(levels[0], parting, line, first, isFieldParted ? told.second : 0);
            return true;
        }

        private boolean tryGroup(Group group, int level, int way) {
            if (level < 1 || level > MOST_GROUPS) {
                return false;
            }
            boolean isLineLeft = way == 2 || way == 4;
            boolean isOnLeft = way >= 3;
            if (isLineLeft && group.line == 0 || isOnLeft && group.onNumber == 0) {
                return false;
            }
            lengths[level] = lengths[level - 1];
            if (way > 0) {
                if (group.tincture == COUNTERCHANGED && !isFieldParted) {
                    return false;
                }
                trial.takeAsDrawn(group);
                trial.line = isLineLeft ? trial.line : 0;
                if (!isOnLeft) {
                    trial.clearOn();
                }
                lengths[level] = trial.tellTo(words, lengths[level]);
            }
            if (lengths[level] > bestCount) {
                return false;
            }
            levels[level].copyFrom(levels[level - 1]);
            if (way > 0) {
                painter.paintGroup(levels[level], trial);
            }
            return true;
        }

        private void judge(Picture drawn, int level) {
            if (level < 0 || level > MOST_GROUPS || Picture.countUnlike(levels[level].rows, drawn.rows) > 0) {
                return;
            }
            int length = lengths[level];
            if (length < bestCount || length == bestCount && isLess()) {
                bestCount = length;
                System.arraycopy(words, 0, best, 0, MOST_WORDS);
            }
        }

        private boolean isLess() {
            for (int i = 0; i < bestCount && i < MOST_WORDS; i++) {
                if (words[i] != best[i]) {
                    return words[i] < best[i];
                }
            }
            return false;
        }

        /** Whether the fewest words are a blazon that draws the same. */
        boolean tellsWell(Blazon told) {
            painter.paintBlazon(target, told, told.first);
            tell(told, target);
            retold.takeWords(best, bestCount);
            retold.read();
            if (retold.faultAt >= 0) {
                return false;
            }
            painter.paintBlazon(levels[0], retold, retold.first);
            return Picture.countUnlike(levels[0].rows, target.rows) == 0;
        }
    }

    /** Persons, their parents and marriages, and who of them lives. */
    private static final class Kin {
        private final int[] fathers = new int[MOST_PERSONS];
        private final int[] mothers = new int[MOST_PERSONS];
        private final int[] spouses = new int[MOST_PERSONS];
        private final int[] deaths = new int[MOST_PERSONS];
        private final int[] lines = new int[MOST_PERSONS];
        private final boolean[] men = new boolean[MOST_PERSONS];
        private final boolean[] reached = new boolean[MOST_PERSONS];
        private int deathCount;
        int count;

        int add(int father, int mother, boolean isMan) {
            if (count < 0 || count >= MOST_PERSONS) {
                return -1;
            }
            int person = count;
            count++;
            fathers[person] = father;
            mothers[person] = mother;
            spouses[person] = -1;
            deaths[person] = 0;
            men[person] = isMan;
            countInLines(person, 1);
            return person;
        }

        void end(int person) {
            if (!isAlive(person)) {
                return;
            }
            deathCount++;
            deaths[person] = deathCount;
            countInLines(person, -1);
            int other = spouses[person];
            if (has(other)) {
                spouses[other] = -1;
            }
            spouses[person] = -1;
        }

        void join(int man, int woman) {
            if (has(man) && has(woman)) {
                spouses[man] = woman;
                spouses[woman] = man;
            }
        }

        private void countInLines(int person, int change) {
            if (!isMan(person)) {
                return;
            }
            int father = fatherOf(person);
            for (int step = 0; step < MOST_PERSONS && has(father); step++) {
                lines[father] += change;
                father = fathers[father];
            }
        }

        boolean has(int person) {
            return person >= 0 && person < count && person < MOST_PERSONS;
        }

        boolean isMan(int person) {
            return has(person) && men[person];
        }

        boolean isAlive(int person) {
            return has(person) && deaths[person] == 0;
        }

        int deathOrder(int person) {
            return has(person) ? deaths[person] : 0;
        }

        int fatherOf(int person) {
            return has(person) ? fathers[person] : -1;
        }

        int motherOf(int person) {
            return has(person) ? mothers[person] : -1;
        }

        int spouseOf(int person) {
            return has(person) ? spouses[person] : -1;
        }

        int livingLine(int person) {
            return has(person) ? lines[person] : 0;
        }

        /** Whether a person, living or not, is an heiress. */
        boolean isLastOfLine(int person) {
            if (!has(person) || men[person] || !has(fathers[person])) {
                return false;
            }
            int father = fathers[person];
            return deaths[father] > 0 && lines[father] == 0;
        }

        boolean isSonOf(int person, int father) {
            return has(person) && men[person] && fathers[person] == father;
        }

        boolean isDaughterOf(int person, int father) {
            return has(person) && !men[person] && fathers[person] == father;
        }

        int sonRank(int person) {
            int rank = 1;
            int father = fatherOf(person);
            for (int p = 0; p < person && has(p); p++) {
                if (isSonOf(p, father)) {
                    rank++;
                }
            }
            return rank;
        }

        /** Whether a person is the heir of a father who is told and dead. */
        boolean isHeir(int person) {
            if (!has(person) || !men[person] || deaths[person] > 0 || !has(fathers[person])) {
                return false;
            }
            int father = fathers[person];
            if (deaths[father] == 0) {
                return false;
            }
            for (int p = 0; p < person && has(p); p++) {
                if (isSonOf(p, father) && (deaths[p] == 0 || lines[p] > 0)) {
                    return false;
                }
            }
            return true;
        }

        /** Whether a man is another one, or of the male line of that one. */
        boolean isOfLine(int person, int forefather) {
            int man = has(person) && men[person] ? person : -1;
            for (int step = 0; step < MOST_PERSONS && has(man); step++) {
                if (man == forefather) {
                    return true;
                }
                man = fathers[man];
            }
            return false;
        }

        /** Whether one is a person, or a forebear of that person through fathers and mothers. */
        boolean isForebear(int one, int person) {
            if (!has(one) || !has(person)) {
                return false;
            }
            for (int p = 0; p < MOST_PERSONS; p++) {
                reached[p] = p == person;
            }
            for (int p = person; p > one && p < MOST_PERSONS; p--) {
                if (reached[p]) {
                    reach(fathers[p]);
                    reach(mothers[p]);
                }
            }
            return reached[one];
        }

        private void reach(int person) {
            if (has(person)) {
                reached[person] = true;
            }
        }

        int countLiving() {
            return count - deathCount;
        }
    }

    /** All arms, with what they look like without differences. */
    private static final class Roll {
        private final Painter painter;
        private final Blazon[] blazons = new Blazon[MOST_ARMS];
        private final long[][] pictures = new long[MOST_ARMS][SIDE];
        private final int[] lands = new int[MOST_ARMS];
        private final int[] firsts = new int[MOST_ARMS];
        private final int[] years = new int[MOST_ARMS];
        private final int[] called = new int[MOST_ARMS];
        private final int[] honours = new int[MOST_ARMS];
        private final char[] letters = new char[MOST_ARMS];
        private final boolean[] knownTold = new boolean[MOST_ARMS];
        private final Picture canvas = new Picture();
        int count;

        Roll(Painter painter) {
            this.painter = painter;
            for (int a = 0; a < MOST_ARMS; a++) {
                blazons[a] = new Blazon();
            }
        }

        int add(Blazon row, int person, int land, int year, char letter) {
            if (count < 0 || count >= MOST_ARMS) {
                return -1;
            }
            int arms = count;
            count++;
            blazons[arms].takeWords(row.words, row.count);
            blazons[arms].read();
            lands[arms] = land;
            firsts[arms] = person;
            years[arms] = year;
            called[arms] = -1;
            honours[arms] = 0;
            letters[arms] = letter;
            repaint(arms);
            return arms;
        }

        /** Augments arms, and tells whether they were not augmented before. */
        boolean addHonour(int arms, int tincture, int charge, int charged) {
            if (!has(arms)) {
                return false;
            }
            boolean isFirst = honours[arms] == 0;
            honours[arms] = Painter.honourOf(tincture, charge, charged);
            repaint(arms);
            return isFirst;
        }

        private void repaint(int arms) {
            if (has(arms)) {
                painter.paintBlazon(canvas, blazons[arms], blazons[arms].first);
                painter.paintHonour(canvas, honours[arms]);
                System.arraycopy(canvas.rows, 0, pictures[arms], 0, SIDE);
            }
        }

        private boolean has(int arms) {
            return arms >= 0 && arms < count && arms < MOST_ARMS;
        }

        /** Arms that exist are asked for; for others the first ones answer, so that no index fails. */
        private int safe(int arms) {
            return has(arms) ? arms : 0;
        }

        Blazon blazonOf(int arms) {
            return blazons[safe(arms)];
        }

        long[] rowsOf(int arms) {
            return pictures[safe(arms)];
        }

        int tinctureAt(int arms, int x, int y) {
            return Picture.inRow(pictures[safe(arms)][y & 15], x);
        }

        int landOf(int arms) {
            return has(arms) ? lands[arms] : -1;
        }

        int firstBearer(int arms) {
            return has(arms) ? firsts[arms] : -1;
        }

        int yearWhen(int arms) {
            return has(arms) ? years[arms] : 0;
        }

        int honourOf(int arms) {
            return has(arms) ? honours[arms] : 0;
        }

        char letterOf(int arms) {
            return has(arms) ? letters[arms] : 'v';
        }

        void setLetter(int arms, char letter) {
            if (has(arms)) {
                letters[arms] = letter;
            }
        }

        boolean isVoid(int arms) {
            return !has(arms) || letters[arms] == 'v';
        }

        int calledTo(int arms) {
            return has(arms) ? called[arms] : -1;
        }

        void setCalled(int arms, int person) {
            if (has(arms)) {
                called[arms] = person;
            }
        }

        boolean isKnownTold(int arms) {
            return has(arms) && knownTold[arms];
        }

        void setKnownTold(int arms) {
            if (has(arms)) {
                knownTold[arms] = true;
            }
        }

        int latestOf(int person) {
            for (int a = count - 1; a >= 0; a--) {
                if (firstBearer(a) == person && letters[a] != 'v') {
                    return a;
                }
            }
            return -1;
        }

        int unlikePoints(int one, int other) {
            return Picture.countUnlike(pictures[safe(one)], pictures[safe(other)]);
        }

        boolean isNear(int arms, Picture picture) {
            return Picture.countUnlike(pictures[safe(arms)], picture.rows) < NEAR;
        }

        int nearestTo(Picture picture) {
            int nearest = -1;
            int least = SIDE * SIDE + 1;
            for (int a = 0; a < count && a < MOST_ARMS; a++) {
                int unlike = Picture.countUnlike(pictures[a], picture.rows);
                if (letters[a] != 'v' && unlike < least) {
                    nearest = a;
                    least = unlike;
                }
            }
            return nearest;
        }

        int countWithWord(int word) {
            int found = 0;
            for (int a = 0; a < count && a < MOST_ARMS; a++) {
                if (blazons[a].holdsWord(word)) {
                    found++;
                }
            }
            return found;
        }

        int countWords() {
            int sum = 0;
            for (int a = 0; a < count && a < MOST_ARMS; a++) {
                sum += blazons[a].count;
            }
            return sum;
        }

        long weighAll() {
            long sum = 0;
            for (int a = 0; a < count && a < MOST_ARMS; a++) {
                long weight = 0;
                for (int point = 0; point < SIDE * SIDE; point++) {
                    weight += (long) (point + 1) * Picture.inRow(pictures[a][point / SIDE & 15], point % SIDE);
                }
                sum += (a + 1) * weight;
            }
            return sum;
        }
    }

    /** Who bears which arms with which differences, found anew whenever something was told. */
    private static final class Bearing {
        private final Kin kin;
        private final Roll roll;
        private final int[] borne = new int[MOST_PERSONS];
        private final int[] kept = new int[MOST_PERSONS];
        private final int[][] marks = new int[MOST_PERSONS][MOST_PERSONS];
        private final int[] markCounts = new int[MOST_PERSONS];
        private final boolean[] wereLast = new boolean[MOST_PERSONS];
        private final boolean[] wereHeirs = new boolean[MOST_PERSONS];
        private final int[] lastMen = new int[MOST_ARMS];
        private final int[] heiressCounts = new int[MOST_ARMS];
        private final int[] fallsTo = new int[MOST_ARMS];

        Bearing(Kin kin, Roll roll) {
            this.kin = kin;
            this.roll = roll;
        }

        /** Goes up the numbers, as a father's is always lower than that of a child. */
        void settle() {
            for (int a = 0; a < roll.count && a < MOST_ARMS; a++) {
                findHeiresses(a);
            }
            for (int p = 0; p < kin.count && p < MOST_PERSONS; p++) {
                if (kin.isAlive(p)) {
                    bear(p);
                } else {
                    borne[p] = kept[p] >= 0 && !roll.isVoid(kept[p]) ? kept[p] : -1;
                }
            }
        }

        private void bear(int person) {
            if (!kin.has(person)) {
                return;
            }
            markCounts[person] = 0;
            borne[person] = roll.latestOf(person);
            if (borne[person] < 0) {
                borne[person] = fallenTo(person);
            }
            int father = kin.fatherOf(person);
            if (borne[person] >= 0 || !kin.has(father) || borne[father] < 0) {
                return;
            }
            borne[person] = borne[father];
            int count = Math.min(markCounts[father], MOST_PERSONS - 1);
            if (count > 0) {
                System.arraycopy(marks[father], 0, marks[person], 0, count);
            }
            if (kin.isMan(person) && !kin.isHeir(person) && count >= 0) {
                marks[person][count] = kin.sonRank(person);
                count++;
            }
            markCounts[person] = count;
        }

        private int fallenTo(int person) {
            for (int a = 0; a < roll.count && a < MOST_ARMS; a++) {
                if (fallsTo[a] == person && kin.isLastOfLine(person)) {
                    return a;
                }
            }
            return -1;
        }

        private void findHeiresses(int arms) {
            if (arms < 0 || arms >= MOST_ARMS) {
                return;
            }
            int last = findLastMan(arms);
            lastMen[arms] = last;
            heiressCounts[arms] = 0;
            fallsTo[arms] = -1;
            if (last < 0) {
                return;
            }
            int only = -1;
            for (int p = 0; p < kin.count; p++) {
                if (kin.isDaughterOf(p, last) && kin.isAlive(p)) {
                    heiressCounts[arms]++;
                    only = p;
                }
            }
            int called = roll.calledTo(arms);
            if (heiressCounts[arms] == 1) {
                fallsTo[arms] = only;
            } else if (kin.isDaughterOf(called, last) && kin.isAlive(called)) {
                fallsTo[arms] = called;
            }
        }

        /** The man from whom arms come to daughters, -1 as long as they come to nobody so. */
        private int findLastMan(int arms) {
            int first = roll.firstBearer(arms);
            if (roll.isVoid(arms) || !kin.isMan(first) || kin.isAlive(first) || kin.livingLine(first) > 0) {
                return -1;
            }
            int last = -1;
            for (int p = first; p < kin.count && p < MOST_PERSONS; p++) {
                if (!kin.isAlive(p) && kept[p] == arms && kin.isOfLine(p, first) && isLaterThan(p, last)) {
                    last = p;
                }
            }
            return last;
        }

        private boolean isLaterThan(int person, int other) {
            if (!kin.has(person) || !kin.has(other)) {
                return true;
            }
            int more = markCounts[person] - markCounts[other];
            return more < 0 || more == 0 && kin.deathOrder(person) > kin.deathOrder(other);
        }

        /** Keeps for good how things are with a person who is about to die. */
        void keep(int person) {
            if (kin.has(person)) {
                kept[person] = borne[person];
                wereLast[person] = kin.isLastOfLine(person);
                wereHeirs[person] = kin.isHeir(person);
            }
        }

        int armsOf(int person) {
            return kin.has(person) ? borne[person] : -1;
        }

        int markCount(int person) {
            return kin.has(person) ? markCounts[person] : 0;
        }

        int markAt(int person, int index) {
            return kin.has(person) && index >= 0 && index < MOST_PERSONS ? marks[person][index] : 0;
        }

        int[] marksOf(int person) {
            return marks[kin.has(person) ? person : 0];
        }

        boolean bringsQuarters(int woman) {
            return kin.isLastOfLine(woman) || kin.has(woman) && !kin.isAlive(woman) && wereLast[woman];
        }

        /** Whether a person is, or died as, the heir of the father and bears the arms that he bore. */
        boolean bearsAsHeir(int person) {
            int arms = armsOf(person);
            if (arms < 0 || arms != armsOf(kin.fatherOf(person))) {
                return false;
            }
            return kin.isHeir(person) || kin.has(person) && !kin.isAlive(person) && wereHeirs[person];
        }

        int heiressCount(int arms) {
            return arms >= 0 && arms < MOST_ARMS ? heiressCounts[arms] : 0;
        }

        boolean isLastHeiress(int person, int arms) {
            return arms >= 0 && arms < MOST_ARMS && lastMen[arms] >= 0
                    && kin.isDaughterOf(person, lastMen[arms]) && kin.isAlive(person);
        }

        /** Whether arms are in abeyance. */
        boolean liesBetween(int arms) {
            return arms >= 0 && arms < MOST_ARMS && heiressCounts[arms] > 1 && fallsTo[arms] < 0;
        }

        int abeyances() {
            int found = 0;
            for (int a = 0; a < roll.count; a++) {
                if (liesBetween(a)) {
                    found++;
                }
            }
            return found;
        }

        int countBearers(int arms) {
            int found = 0;
            for (int p = 0; p < kin.count && p < MOST_PERSONS; p++) {
                if (borne[p] == arms && kin.isAlive(p)) {
                    found++;
                }
            }
            return found;
        }

        int countArmigers() {
            int found = 0;
            for (int p = 0; p < kin.count && p < MOST_PERSONS; p++) {
                if (borne[p] >= 0 && kin.isAlive(p)) {
                    found++;
                }
            }
            return found;
        }

        boolean isBorneByOther(int arms, int person) {
            for (int p = 0; p < kin.count && p < MOST_PERSONS; p++) {
                if (p != person && borne[p] == arms && kin.isAlive(p)) {
                    return true;
                }
            }
            return false;
        }

        /** Whether the first bearer, a son and a son of that son bear arms, or bore them. */
        boolean isBorneByThree(int arms) {
            int first = roll.firstBearer(arms);
            if (!kin.has(first) || borne[first] != arms) {
                return false;
            }
            for (int p = first; p < kin.count && p < MOST_PERSONS; p++) {
                int father = kin.fatherOf(p);
                if (borne[p] == arms && kin.isMan(p) && kin.isSonOf(father, first) && borne[father] == arms) {
                    return true;
                }
            }
            return false;
        }

        boolean areVoidUnborne() {
            for (int p = 0; p < kin.count && p < MOST_PERSONS; p++) {
                if (borne[p] >= 0 && roll.isVoid(borne[p])) {
                    return false;
                }
            }
            return true;
        }
    }

    /** Ranks, crests, supporters and abatements of persons. */
    private static final class Honours {
        private final Kin kin;
        private final Bearing bearing;
        private final int[] ranks = new int[MOST_PERSONS];
        private final int[] crests = new int[MOST_PERSONS];
        private final int[] rights = new int[MOST_PERSONS];
        private final int[] lefts = new int[MOST_PERSONS];
        private final boolean[] abated = new boolean[MOST_PERSONS];

        Honours(Kin kin, Bearing bearing) {
            this.kin = kin;
            this.bearing = bearing;
        }

        int exchangeRank(int person, int rank) {
            if (!kin.has(person)) {
                return 0;
            }
            int before = ranks[person];
            ranks[person] = rank;
            return before;
        }

        int exchangeCrest(int person, int charge) {
            if (!kin.has(person)) {
                return 0;
            }
            int before = crests[person];
            crests[person] = charge;
            return before;
        }

        boolean exchangeSupporters(int person, int right, int left) {
            if (!kin.has(person)) {
                return false;
            }
            boolean before = rights[person] != 0;
            rights[person] = right;
            lefts[person] = left;
            return before;
        }

        boolean exchangeAbated(int person, boolean is) {
            if (!kin.has(person)) {
                return false;
            }
            boolean before = abated[person];
            abated[person] = is;
            return before;
        }

        boolean isAbated(int person) {
            return kin.isAlive(person) && abated[person];
        }

        /** Goes up the fathers to the first one who told a crest, as long as each one had what his father had. */
        int shownCrest(int person) {
            if (!kin.has(person) || ranks[person] < 1) {
                return 0;
            }
            int man = person;
            for (int step = 0; step < MOST_PERSONS && crests[man] == 0; step++) {
                int father = kin.fatherOf(man);
                if (!bearing.bearsAsHeir(man) || !kin.has(father)) {
                    return 0;
                }
                man = father;
            }
            return crests[man];
        }

        int shownSupporter(int person, boolean isRight) {
            if (!kin.has(person) || ranks[person] < 3) {
                return 0;
            }
            return isRight ? rights[person] : lefts[person];
        }
    }

    /** Quarters, and shields of persons. */
    private static final class Marshal {
        private static final int[] PLACES_OF_TWO = {0, 1, 1, 0};
        private static final int[] PLACES_OF_THREE = {0, 1, 2, 0};
        private static final int[] ABATEMENT = {0, 0, 0, 0, 0, 0, 0x3C0, 0x3C0, 0x3C0, 0x3C0, 0, 0, 0, 0, 0, 0};

        private final Kin kin;
        private final Roll roll;
        private final Bearing bearing;
        private final Honours honours;
        private final Painter painter;
        private final int[][] arms = new int[MOST_PERSONS][MOST_QUARTERS];
        private final int[][] bearers = new int[MOST_PERSONS][MOST_QUARTERS];
        private final int[] counts = new int[MOST_PERSONS];
        private final Picture quarterPicture = new Picture();
        private final Picture wifePicture = new Picture();

        Marshal(Kin kin, Roll roll, Bearing bearing, Honours honours, Painter painter) {
            this.kin = kin;
            this.roll = roll;
            this.bearing = bearing;
            this.honours = honours;
            this.painter = painter;
        }

        /** Goes up the numbers, as those of the parents are always lower than that of a child. */
        void settle() {
            for (int p = 0; p < kin.count && p < MOST_PERSONS; p++) {
                counts[p] = 0;
                int own = bearing.armsOf(p);
                if (own >= 0) {
                    add(p, own, p);
                    addAll(p, kin.fatherOf(p));
                    if (bearing.bringsQuarters(kin.motherOf(p))) {
                        addAll(p, kin.motherOf(p));
                    }
                }
            }
        }

        private void addAll(int person, int parent) {
            if (kin.has(parent)) {
                for (int q = 0; q < counts[parent] && q < MOST_QUARTERS; q++) {
                    add(person, arms[parent][q], bearers[parent][q]);
                }
            }
        }

        private void add(int person, int added, int bearer) {
            if (!kin.has(person) || counts[person] < 0 || counts[person] >= MOST_QUARTERS) {
                return;
            }
            int count = counts[person];
            for (int q = 0; q < count; q++) {
                if (arms[person][q] == added) {
                    return;
                }
            }
            arms[person][count] = added;
            bearers[person][count] = bearer;
            counts[person] = count + 1;
        }

        int quarterCount(int person) {
            return kin.has(person) ? counts[person] : 0;
        }

        int armsAt(int person, int index) {
            return kin.has(person) && index >= 0 && index < MOST_QUARTERS ? arms[person][index] : -1;
        }

        int bearerAt(int person, int index) {
            return kin.has(person) && index >= 0 && index < MOST_QUARTERS ? bearers[person][index] : -1;
        }

        boolean areProved() {
            for (int p = 0; p < kin.count && p < MOST_PERSONS; p++) {
                for (int q = 0; q < counts[p] && q < MOST_QUARTERS; q++) {
                    int bearer = bearers[p][q];
                    if (!kin.isForebear(bearer, p) || bearing.armsOf(bearer) != arms[p][q]) {
                        return false;
                    }
                }
            }
            return true;
        }

        void paintShield(Picture picture, int person) {
            paintQuarters(picture, person);
            int wife = kin.isMan(person) ? kin.spouseOf(person) : -1;
            if (bearing.armsOf(wife) >= 0) {
                paintQuarters(wifePicture, wife);
                paintAbatement(wifePicture, wife);
                if (kin.isLastOfLine(wife)) {
                    picture.overlay(wifePicture, 5, 10, 0x07E0);
                } else {
                    picture.overlay(wifePicture, 0, SIDE - 1, 0xFF00);
                }
            }
            paintAbatement(picture, person);
        }

        private void paintQuarters(Picture picture, int person) {
            int count = kin.has(person) ? counts[person] : 0;
            if (count == 1) {
                paintBorne(picture, person);
            }
            for (int q = 0; q < count && q < 4 && count > 1; q++) {
                paintBorne(quarterPicture, bearers[person][q]);
                for (int place = 0; place < 4; place++) {
                    int due = count == 2 ? PLACES_OF_TWO[place] : count == 3 ? PLACES_OF_THREE[place] : place;
                    if (due == q) {
                        picture.quarterFrom(quarterPicture, place);
                    }
                }
            }
        }

        private void paintAbatement(Picture picture, int person) {
            if (honours.isAbated(person)) {
                picture.putRows(ABATEMENT, LAST_COLOUR);
            }
        }

        /** Paints what a person bears, with that one's differences. */
        private void paintBorne(Picture picture, int person) {
            int borne = bearing.armsOf(person);
            int land = roll.landOf(borne);
            Blazon blazon = roll.blazonOf(borne);
            int[] marks = bearing.marksOf(person);
            int markCount = bearing.markCount(person);
            painter.paintBlazon(picture, blazon, Painter.firstBorne(land, blazon.first, marks, markCount));
            painter.paintMarks(picture, land, blazon.first, marks, markCount);
            painter.paintHonour(picture, roll.honourOf(borne));
        }
    }

    /** Conflicts, visitations, suits and appeals. */
    private static final class Court {
        private final Roll roll;
        private final Bearing bearing;
        private final int[] lands = new int[MOST_JUDGMENTS];
        private final int[] distances = new int[MOST_JUDGMENTS];
        private final int[] years = new int[MOST_JUDGMENTS];
        private final int[] elders = new int[MOST_JUDGMENTS];
        private final int[] youngers = new int[MOST_JUDGMENTS];
        private final char[] letters = new char[MOST_JUDGMENTS];
        private final char[] lettersBefore = new char[MOST_JUDGMENTS];
        private final boolean[] inForce = new boolean[MOST_JUDGMENTS];
        private final boolean[] byAppeal = new boolean[MOST_JUDGMENTS];
        int count;
        int disclaimedCount;

        Court(Roll roll, Bearing bearing) {
            this.roll = roll;
            this.bearing = bearing;
        }

        int conflictsWith(Picture picture, int person, int land) {
            int found = 0;
            for (int a = 0; a < roll.count; a++) {
                if (roll.landOf(a) == land && roll.isNear(a, picture) && bearing.isBorneByOther(a, person)) {
                    found++;
                }
            }
            return found;
        }

        /** A visitation: the arms that it grants are counted. */
        int inspect(int land, int today) {
            int granted = 0;
            for (int a = 0; a < roll.count; a++) {
                if (roll.landOf(a) != land || roll.letterOf(a) != 'u') {
                    continue;
                }
                boolean isProved = today - roll.yearWhen(a) >= LONG_BORNE || bearing.isBorneByThree(a);
                if (isProved && !isNearGranted(a)) {
                    roll.setLetter(a, 'g');
                    granted++;
                } else {
                    roll.setLetter(a, 'v');
                    disclaimedCount++;
                    // Who bore these bears others now, which counts for the arms that come next.
                    bearing.settle();
                }
            }
            return granted;
        }

        private boolean isNearGranted(int arms) {
            for (int a = 0; a < roll.count; a++) {
                if (a != arms && roll.letterOf(a) == 'g' && roll.landOf(a) == roll.landOf(arms)
                        && roll.unlikePoints(a, arms) < NEAR) {
                    return true;
                }
            }
            return false;
        }

        boolean isSuable(int one, int other) {
            return one >= 0 && other >= 0 && one != other && roll.landOf(one) == roll.landOf(other)
                    && roll.unlikePoints(one, other) < NEAR;
        }

        int judge(int one, int other, int today) {
            boolean isOneElder = roll.yearWhen(one) != roll.yearWhen(other)
                    ? roll.yearWhen(one) < roll.yearWhen(other) : one < other;
            int elder = isOneElder ? one : other;
            int younger = isOneElder ? other : one;
            int distance = roll.unlikePoints(one, other);
            int precedent = latest(roll.landOf(elder), distance / 8);
            char letter = precedent >= 0 ? letterOf(precedent)
                    : today - roll.yearWhen(younger) >= LONG_BORNE ? 'y' : 'e';
            return enter(elder, younger, distance, today, letter);
        }

        /** Enters a judgment and makes void the arms that lose. */
        private int enter(int elder, int younger, int distance, int today, char letter) {
            if (count < 0 || count >= MOST_JUDGMENTS) {
                return -1;
            }
            int judgment = count;
            count++;
            int loser = letter == 'e' ? younger : elder;
            lands[judgment] = roll.landOf(elder);
            distances[judgment] = distance;
            years[judgment] = today;
            elders[judgment] = elder;
            youngers[judgment] = younger;
            letters[judgment] = letter;
            lettersBefore[judgment] = roll.letterOf(loser);
            inForce[judgment] = true;
            roll.setLetter(loser, 'v');
            return judgment;
        }

        private boolean has(int judgment) {
            return judgment >= 0 && judgment < count && judgment < MOST_JUDGMENTS;
        }

        char letterOf(int judgment) {
            return has(judgment) ? letters[judgment] : 'e';
        }

        boolean isInForce(int judgment) {
            return has(judgment) && inForce[judgment];
        }

        int latest(int land, int step) {
            for (int j = Math.min(count, MOST_JUDGMENTS) - 1; j >= 0; j--) {
                if (inForce[j] && lands[j] == land && distances[j] / 8 == step) {
                    return j;
                }
            }
            return -1;
        }

        boolean isOpenToAppeal(int judgment, int today) {
            return isInForce(judgment) && today - years[judgment] < 2 && !byAppeal[judgment]
                    && distances[judgment] >= 12;
        }

        int overturn(int judgment, int today) {
            if (!has(judgment)) {
                return -1;
            }
            boolean isElders = letters[judgment] == 'e';
            inForce[judgment] = false;
            roll.setLetter(isElders ? youngers[judgment] : elders[judgment], lettersBefore[judgment]);
            int next = enter(elders[judgment], youngers[judgment], distances[judgment], today, isElders ? 'y' : 'e');
            if (has(next)) {
                byAppeal[next] = true;
            }
            return next;
        }
    }
}
