import java.util.List;
import java.util.Map;
import java.util.Random;
import java.util.TreeMap;

/** Long runs of calls by chance, of a fixed seed, on the class and on the oracle. */
public final class RandomTest {
    private static final int RANKS = 5;
    private static final int FULL = 6;
    private static final String[] ASKED = {
        "wrongAt", "point", "points", "breaks", "drawn", "meant", "fewest", "fewestAt", "losses", "translated", "lives",
        "spouse", "isHeiress", "lineOf", "cameBy", "yearOf", "borne", "differences", "difference", "isInAbeyance",
        "isExtinct", "bearers", "ofArms", "ofShield", "shield", "quarters", "quarter", "quarterBy", "distance",
        "nearest", "withWord", "conflicts", "disclaimed", "judged", "stands", "precedent", "crest", "supporter", "year",
        "persons", "arms", "allPoints", "armigerShare", "meanWords", "isSound"};

    private final Random random;
    private final Both both;

    private RandomTest(long seed, Map<String, Integer> seen) {
        random = new Random(seed);
        both = new Both("run " + seed, seen);
    }

    public static void main(String[] args) {
        int runs = args.length > 0 ? Integer.parseInt(args[0]) : 350;
        long from = args.length > 1 ? Long.parseLong(args[1]) : 1;
        Map<String, Integer> seen = new TreeMap<>();
        for (int run = 0; run < runs; run++) {
            RandomTest test = new RandomTest(from + run, seen);
            test.run(run % 7);
        }
        if (args.length > 0) {
            System.out.println(seen);
        }
        Check.end();
    }

    private int below(int bound) {
        return bound <= 0 ? 0 : random.nextInt(bound);
    }

    private boolean chance(int percent) {
        return random.nextInt(100) < percent;
    }

    private int person() {
        return chance(4) ? below(43) - 1 : below(both.oracle.persons.size());
    }

    /** What the oracle answers to a question, which changes nothing. */
    private String foretold(String call, int... arguments) {
        return Check.told(() -> both.oracle.call(call, arguments));
    }

    /** A person for whom a question is answered so, if one is found by chance. */
    private int personWith(String call, String answer) {
        for (int tries = 0; tries < 12; tries++) {
            int p = below(both.oracle.persons.size());
            if (foretold(call, p).equals(answer)) {
                return p;
            }
        }
        return person();
    }

    private int armiger() {
        for (int tries = 0; tries < 12; tries++) {
            int p = below(both.oracle.persons.size());
            if (!foretold("borne", p).startsWith("throws") && foretold("lives", p).equals("true")) {
                return p;
            }
        }
        return person();
    }

    private int arms() {
        return chance(4) ? below(27) - 1 : below(both.oracle.arms.size());
    }

    private int land(int kind) {
        return chance(3) ? below(7) - 1 : kind == 4 || chance(70) ? 0 : below(4);
    }

    private int tincture() {
        return chance(3) ? below(12) - 1 : 1 + below(8);
    }

    private int charge() {
        return chance(3) ? 49 + below(12) : 51 + below(8);
    }

    private int coordinate() {
        return chance(1) ? below(20) - 2 : below(16);
    }

    private void run(int kind) {
        if (kind == RANKS) {
            raiseLines();
        } else if (kind == FULL) {
            fillLand();
        }
        for (int i = 0; i < 40 && kind > 0 && kind < RANKS; i++) {
            if (chance(50)) {
                birth();
            }
        }
        while (both.calls.size() < 470 && both.isRight) {
            if (kind == 0) {
                typeRow(false);
                askRow();
            } else if (kind == RANKS && chance(70)) {
                changeRanks();
            } else if (kind == FULL && chance(40)) {
                both.ask("sue", armiger(), armiger());
                both.ask("appeal", below(both.oracle.judgments.size()));
                both.ask("pass", 1 + below(3));
            } else {
                change(kind);
            }
            for (int i = below(4); i > 0; i--) {
                ask(ASKED[below(ASKED.length)]);
            }
        }
        for (int p = 0; p < both.oracle.persons.size() && both.calls.size() < 510 && both.isRight; p++) {
            both.ask("borne", p);
            both.ask("quarters", p);
        }
        both.ask("allPoints");
        both.ask("isSound");
    }

    private void askRow() {
        for (String call : new String[] {"wrongAt", "points", "breaks", "fewest", "fewestAt", "drawn", "meant"}) {
            ask(call);
        }
    }

    // Words by chance, most of them right.

    private void typeRow(boolean isShort) {
        both.ask("erase");
        boolean isParted = chance(50);
        if (isParted) {
            int parting = 11 + below(5);
            both.ask("type", parting);
            if (parting < 14 && chance(40) || chance(2)) {
                both.ask("type", 9 + below(2));
            }
            both.ask("type", 1 + below(8));
            both.ask("type", chance(98) ? 16 : below(100));
        }
        both.ask("type", isParted && chance(20) ? 31 + below(3) : 1 + below(8));
        int groups = isShort ? below(3) : below(chance(10) ? 6 : 5);
        for (int g = 0; g < groups; g++) {
            typeGroup(isParted);
        }
        if (chance(8)) {
            both.ask("type", below(101));
        }
    }

    private void typeTincture(boolean mayChange) {
        if (chance(60)) {
            both.ask("type", 1 + below(8));
        } else {
            int[] reaching = {31, 32, 33, 35};
            both.ask("type", reaching[below(mayChange || chance(5) ? 4 : 2)]);
        }
    }

    private void typeGroup(boolean isParted) {
        if (chance(50)) {
            int ordinary = 21 + below(8);
            both.ask("type", ordinary);
            if (ordinary != 25 && ordinary != 26 && ordinary != 28 && chance(40) || chance(2)) {
                both.ask("type", 9 + below(2));
            }
            typeTincture(isParted);
            if (chance(40)) {
                both.ask("type", 36);
                typeCharges(false);
                typeTincture(false);
            }
        } else {
            typeCharges(true);
            typeTincture(isParted);
        }
    }

    private void typeCharges(boolean isFree) {
        boolean isStrewn = isFree && chance(20) || chance(1);
        both.ask("type", isStrewn ? 39 : 61 + below(9));
        both.ask("type", 51 + below(8));
        if (chance(30)) {
            both.ask("type", 45 + below(2));
        }
        if (isFree && !isStrewn && chance(40) || chance(2)) {
            both.ask("type", 41 + below(4));
        }
    }

    /** A row that is not far from that of arms which are there. */
    private void typeNear() {
        if (both.oracle.arms.isEmpty() || chance(25)) {
            typeRow(true);
            return;
        }
        both.ask("erase");
        List<Integer> words = both.oracle.arms.get(below(both.oracle.arms.size())).words;
        for (int word : words) {
            boolean isOther = word > 50 && word < 59 && chance(25);
            both.ask("type", isOther ? 51 + below(8) : word);
        }
        if (words.size() < 9 && chance(70)) {
            both.ask("type", 61 + below(3));
            both.ask("type", 51 + below(8));
            both.ask("type", 41 + below(4));
            both.ask("type", 1 + below(8));
        }
    }

    // Changes by chance.

    private void birth() {
        int father = -1;
        int mother = -1;
        for (int tries = 0; tries < 5 && chance(80) && father < 0; tries++) {
            int p = below(both.oracle.persons.size());
            father = p < both.oracle.persons.size() && both.oracle.persons.get(p).man ? p : -1;
        }
        for (int tries = 0; tries < 5 && chance(70) && mother < 0; tries++) {
            int p = below(both.oracle.persons.size());
            mother = p < both.oracle.persons.size() && !both.oracle.persons.get(p).man ? p : -1;
        }
        if (chance(3)) {
            father = person();
        }
        if (chance(3)) {
            mother = person();
        }
        both.ask("birth", father, mother, chance(55) ? 1 : 0);
    }

    private void change(int kind) {
        int what = below(100);
        if (what < 12) {
            birth();
        } else if (what < 22) {
            both.ask("death", chance(40) ? armiger() : chance(60) ? personWith("lives", "true") : person());
        } else if (what < 32) {
            marry();
        } else if (what < 42) {
            typeNear();
            both.ask("grant", personWith("lives", "true"), land(kind));
        } else if (what < 54) {
            typeNear();
            both.ask("assume", personWith("lives", "true"), land(kind));
        } else if (what < 59) {
            callOut();
        } else if (what < 60) {
            both.ask("visit", land(kind));
        } else if (what < 76) {
            sue();
        } else if (what < 82) {
            both.ask("appeal", chance(90) ? both.oracle.judgments.size() - 1 : below(22) - 1);
        } else if (what < 85) {
            both.ask("pass", chance(60) ? 1 : chance(95) ? 1 + below(60) : below(110));
        } else if (what < 88) {
            both.ask("setRank", armiger(), chance(5) ? below(8) - 2 : below(5));
        } else if (what < 91) {
            both.ask("setCrest", armiger(), charge());
        } else if (what < 93) {
            both.ask("setSupporters", armiger(), charge(), charge());
        } else if (what < 95) {
            both.ask("augment", arms(), tincture(), charge(), tincture());
        } else if (what < 97) {
            both.ask("abate", armiger(), below(2));
        } else {
            typeNear();
        }
    }

    /** The elder ones die first, and crests are told by the eldest ones, dead or not. */
    private void changeRanks() {
        int what = below(12);
        if (what < 1) {
            both.ask("setRank", person(), below(5));
        } else if (what < 3) {
            both.ask("setCrest", below(below(both.oracle.persons.size()) + 1), charge());
        } else if (what < 4) {
            both.ask("setSupporters", person(), charge(), charge());
        } else if (what < 9) {
            both.ask("death", below(below(both.oracle.persons.size()) + 1));
        } else if (what < 10) {
            typeNear();
            both.ask("grant", below(4), 0);
        }
        for (int i = 0; i < 4; i++) {
            both.ask("crest", below(both.oracle.persons.size()));
        }
        both.ask("supporter", below(both.oracle.persons.size()), below(2));
    }

    /** A few long lines of men. */
    private void raiseLines() {
        for (int p = 0; p < 20; p++) {
            both.ask("birth", p < 2 ? -1 : chance(60) ? p - 2 : below(p - 1), -1, 1);
            both.ask("setRank", p, 3);
        }
    }

    /** The year 5000 is near, and so are 40 persons, 24 arms and 20 judgments: one sues the others, near ones all. */
    private void fillLand() {
        for (int p = 0; p < 36; p++) {
            both.ask("birth", p < 20 ? -1 : below(20), -1, p < 20 || chance(60) ? 1 : 0);
        }
        for (int i = 0; i < 49; i++) {
            both.ask("pass", 100);
        }
        both.ask("pass", 80 + below(15));
        for (int p = 0; p < 20; p++) {
            int[] words = chance(40) ? new int[] {3} : new int[] {3, 61 + below(3), 51 + below(8), 1};
            for (int word : words) {
                both.ask("type", word);
            }
            both.ask("assume", p, 0);
        }
        for (int p = 1; p < 18; p++) {
            both.ask("sue", chance(80) ? 0 : below(20), p);
        }
    }

    private void marry() {
        int man = person();
        int woman = person();
        for (int tries = 0; tries < 30 && !isPair(man, woman) && chance(98); tries++) {
            man = person();
            woman = person();
        }
        both.ask("marry", man, woman);
    }

    private boolean isPair(int man, int woman) {
        return isSingle(man) && isSingle(woman) && both.oracle.persons.get(man).man
                && !both.oracle.persons.get(woman).man;
    }

    private boolean isSingle(int p) {
        return foretold("lives", p).equals("true") && foretold("spouse", p).startsWith("throws");
    }

    private void callOut() {
        int which = arms();
        int who = person();
        for (int a = 0; a < both.oracle.arms.size() && chance(95); a++) {
            if (foretold("isInAbeyance", a).equals("true")) {
                which = a;
                who = daughterOfTheLast(who);
            }
        }
        both.ask("call", which, who);
    }

    private int daughterOfTheLast(int otherwise) {
        for (int tries = 0; tries < 20; tries++) {
            int p = below(both.oracle.persons.size());
            if (foretold("isHeiress", p).equals("true") && foretold("lives", p).equals("true")) {
                return p;
            }
        }
        return otherwise;
    }

    private void sue() {
        int one = armiger();
        int other = armiger();
        for (int tries = 0; tries < 15 && (one == other || foretold("borne", one).equals(foretold("borne", other)))
                && chance(97); tries++) {
            one = armiger();
            other = armiger();
        }
        both.ask("sue", one, other);
    }

    // Questions by chance.

    private void ask(String call) {
        switch (call) {
            case "point":
                both.ask(call, coordinate(), coordinate());
                break;
            case "points":
                both.ask(call, chance(3) ? below(7) - 2 : below(4), tincture());
                break;
            case "drawn":
                both.ask(call, chance(10) ? below(8) - 2 : below(3), below(2));
                break;
            case "meant":
            case "fewestAt":
                both.ask(call, below(chance(50) ? 6 : 26) - 1);
                break;
            case "losses":
            case "translated":
                askTradition(call);
                break;
            case "lives": case "spouse": case "isHeiress": case "lineOf": case "borne": case "differences":
            case "quarters": case "crest":
                both.ask(call, chance(60) ? armiger() : person());
                break;
            case "difference": case "quarter": case "quarterBy":
                both.ask(call, armiger(), below(chance(80) ? 2 : 11) - (chance(10) ? 1 : 0));
                break;
            case "cameBy": case "yearOf": case "isInAbeyance": case "isExtinct": case "bearers":
                both.ask(call, arms());
                break;
            case "ofArms":
                both.ask(call, arms(), coordinate(), coordinate());
                break;
            case "ofShield":
                both.ask(call, armiger(), coordinate(), coordinate());
                break;
            case "shield":
                both.ask(call, armiger(), chance(3) ? below(7) - 2 : below(4), tincture());
                break;
            case "distance":
                both.ask(call, arms(), arms());
                break;
            case "withWord":
                both.ask(call, below(72) - 1);
                break;
            case "conflicts":
                both.ask(call, person(), land(1));
                break;
            case "judged": case "stands":
                both.ask(call, below(chance(80) ? both.oracle.judgments.size() : 22));
                break;
            case "precedent":
                both.ask(call, land(1), chance(5) ? below(6) - 2 : below(3));
                break;
            case "supporter":
                both.ask(call, armiger(), below(2));
                break;
            default:
                both.ask(call);
                break;
        }
    }

    private void askTradition(String call) {
        int tradition = chance(3) ? below(7) - 2 : below(4);
        if (call.equals("losses")) {
            both.ask(call, tradition);
        } else {
            both.ask(call, tradition, below(26) - 1);
        }
    }
}
