import java.util.NoSuchElementException;

/**
 * Each call that takes the number of a person, of arms or of a judgment: in a land without any, in one with some, and in
 * the one with 40 persons, 24 arms and 20 judgments; the least and the greatest number, and the next ones outside.
 */
public final class EdgeNumbersTest {
    private interface Asked {
        Object of(Blazonry land, int number);
    }

    private static final class Named {
        final String name;
        final Asked call;

        Named(String name, Asked call) {
            this.name = name;
            this.call = call;
        }
    }

    private static final Named[] OF_PERSONS = {
        new Named("death", Blazonry::death), new Named("marry, man", (land, p) -> land.marry(p, 1)),
        new Named("marry, woman", (land, p) -> land.marry(2, p)), new Named("lives", Blazonry::lives),
        new Named("spouse", Blazonry::spouse), new Named("isHeiress", Blazonry::isHeiress),
        new Named("lineOf", Blazonry::lineOf), new Named("grant", (land, p) -> land.grant(p, 3)),
        new Named("assume", (land, p) -> land.assume(p, 3)), new Named("borne", Blazonry::borne),
        new Named("differences", Blazonry::differences), new Named("difference", (land, p) -> land.difference(p, 0)),
        new Named("ofShield", (land, p) -> land.ofShield(p, 0, 0)),
        new Named("shield", (land, p) -> land.shield(p, 0, 1)), new Named("quarters", Blazonry::quarters),
        new Named("quarter", (land, p) -> land.quarter(p, 0)),
        new Named("quarterBy", (land, p) -> land.quarterBy(p, 0)),
        new Named("conflicts", (land, p) -> land.conflicts(p, 0)), new Named("sue", (land, p) -> land.sue(p, 0)),
        new Named("sue, other", (land, p) -> land.sue(0, p)), new Named("setRank", (land, p) -> land.setRank(p, 1)),
        new Named("setCrest", (land, p) -> land.setCrest(p, 51)), new Named("crest", Blazonry::crest),
        new Named("setSupporters", (land, p) -> land.setSupporters(p, 51, 51)),
        new Named("supporter", (land, p) -> land.supporter(p, true)),
        new Named("supporter, left", (land, p) -> land.supporter(p, false)),
        new Named("abate", (land, p) -> land.abate(p, true)),
        new Named("birth, father", (land, p) -> land.birth(p, -1, true)),
        new Named("birth, mother", (land, p) -> land.birth(-1, p, true))};
    private static final Named[] OF_ARMS = {
        new Named("cameBy", Blazonry::cameBy), new Named("yearOf", Blazonry::yearOf),
        new Named("isInAbeyance", Blazonry::isInAbeyance), new Named("call", (land, a) -> land.call(a, 0)),
        new Named("isExtinct", Blazonry::isExtinct), new Named("bearers", Blazonry::bearers),
        new Named("ofArms", (land, a) -> land.ofArms(a, 0, 0)),
        new Named("distance, first", (land, a) -> land.distance(a, 0)),
        new Named("distance, second", (land, a) -> land.distance(0, a)),
        new Named("augment", (land, a) -> land.augment(a, 1, 51, 1))};
    private static final Named[] OF_JUDGMENTS = {
        new Named("judged", Blazonry::judged), new Named("stands", Blazonry::stands),
        new Named("appeal", Blazonry::appeal)};

    private static final Twin.Maker[] LANDS = {Lands.EMPTY, Lands.FAMILY, Lands.FULL};
    private static final int[] PERSONS = {0, 14, 40};
    private static final int[] ARMS = {0, 6, 24};
    private static final int[] JUDGMENTS = {0, 1, 20};

    public static void main(String[] args) {
        for (int i = 0; i < LANDS.length; i++) {
            all(OF_PERSONS, LANDS[i], PERSONS[i]);
            all(OF_ARMS, LANDS[i], ARMS[i]);
            all(OF_JUDGMENTS, LANDS[i], JUDGMENTS[i]);
        }
        calledHeiress();
        counts();
        emptyLand();
        Check.end();
    }

    private static void all(Named[] calls, Twin.Maker maker, int count) {
        for (Named each : calls) {
            for (int number : new int[] {Integer.MIN_VALUE, -2, -1, count, count + 1, 99, Integer.MAX_VALUE}) {
                if (number == -1 && each.name.startsWith("birth")) {
                    continue;
                }
                Twin.refused(each.name + " of " + number, IndexOutOfBoundsException.class, maker,
                        land -> each.call.of(land, number));
            }
            for (int number : count == 0 ? new int[0] : new int[] {0, count - 1}) {
                String answer = Check.told(() -> each.call.of(maker.make(), number));
                Check.same(each.name + " of " + number + " is there", "false",
                        String.valueOf(answer.equals("throws.IndexOutOfBoundsException")));
            }
        }
    }

    /** call: IndexOutOfBoundsException if there are no such arms, or person; both alike. */
    private static void calledHeiress() {
        for (int person : new int[] {Integer.MIN_VALUE, -1, 14, 15, 40, Integer.MAX_VALUE}) {
            Twin.refused("call", IndexOutOfBoundsException.class, Lands.FAMILY, land -> land.call(3, person));
            Twin.refused("call", IndexOutOfBoundsException.class, Lands.FAMILY, land -> land.call(0, person));
            Twin.refused("call", IndexOutOfBoundsException.class, Lands.FAMILY, land -> land.call(6, person));
        }
        for (int person : new int[] {40, -1}) {
            Twin.refused("call", IndexOutOfBoundsException.class, Lands.FULL, land -> land.call(0, person));
        }
    }

    private static void counts() {
        for (int i = 0; i < LANDS.length; i++) {
            Blazonry land = LANDS[i].make();
            Check.due("persons", PERSONS[i], land::persons);
            Check.due("arms", ARMS[i], land::arms);
        }
    }

    /** The land without persons, arms or judgments. */
    private static void emptyLand() {
        Check.due("no words in it", 0, () -> new Blazonry().withWord(1));
        Check.due("nothing to visit", 0, () -> new Blazonry().visit(3));
        Check.due("nobody disclaimed", 0, () -> new Blazonry().disclaimed());
        Check.due("no points", 0, () -> new Blazonry().allPoints());
        Check.due("sound", true, () -> new Blazonry().isSound());
        Twin.refused("no share", ArithmeticException.class, Lands.EMPTY, Blazonry::armigerShare);
        Twin.refused("no mean", ArithmeticException.class, Lands.EMPTY, Blazonry::meanWords);
        Twin.refused("none is nearest", NoSuchElementException.class, () -> Check.row(3), Blazonry::nearest);
        for (int of = 0; of < 4; of++) {
            for (int step = 0; step < 3; step++) {
                int asked = of;
                int at = step;
                Twin.refused("no precedent", NoSuchElementException.class, Lands.EMPTY,
                        land -> land.precedent(asked, at));
            }
        }
    }
}
