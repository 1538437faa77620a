import java.util.IdentityHashMap;
import java.util.Map;

/**
 * Two lands made alike: a call that is refused is put to one of them alone, and both are then asked and used in the same
 * ways. Each way starts with new lands, so that no land has more calls than the document promises anything for.
 */
final class Twin {
    interface Maker {
        Blazonry make();
    }

    interface Put {
        Object to(Blazonry land);
    }

    private static final int WAYS = 10;
    private static final Map<Maker, String[]> LEFT_ALONE = new IdentityHashMap<>();

    private final Blazonry land;
    private final StringBuilder text = new StringBuilder();

    private Twin(Blazonry land) {
        this.land = land;
    }

    /** The call throws this, and the land is afterwards as one to which it was not put. */
    static void refused(String what, Class<? extends RuntimeException> want, Maker maker, Put put) {
        String[] leftAlone = LEFT_ALONE.computeIfAbsent(maker, Twin::askAll);
        for (int way = 0; way < WAYS; way++) {
            Blazonry land = maker.make();
            Check.due(what, "throws." + want.getSimpleName(), () -> put.to(land));
            Check.same(what + " changes nothing, way " + way, leftAlone[way], ask(land, way));
        }
    }

    private static String[] askAll(Maker maker) {
        String[] texts = new String[WAYS];
        for (int way = 0; way < WAYS; way++) {
            texts[way] = ask(maker.make(), way);
        }
        return texts;
    }

    private static String ask(Blazonry land, int way) {
        Twin twin = new Twin(land);
        switch (way) {
            case 0: twin.words(); break;
            case 1: twin.fill(); break;
            case 2: twin.kin(); break;
            case 3: twin.arms(); break;
            case 4: twin.bearers(); break;
            case 5: twin.shields(); break;
            case 6: twin.court(); break;
            case 7: twin.ranks(0); break;
            case 8: twin.later(); break;
            default: twin.ranks(1); break;
        }
        return twin.text.toString();
    }

    private void add(Put put) {
        text.append(Check.told(() -> put.to(land))).append(' ');
    }

    private void words() {
        add(Blazonry::wrongAt);
        add(Blazonry::breaks);
        add(Blazonry::fewest);
        for (int i = 0; i < 24; i++) {
            int index = i;
            add(land -> land.meant(index));
            add(land -> land.translated(0, index));
            add(land -> land.fewestAt(index));
        }
        for (int i = 0; i < 4; i++) {
            int number = i;
            add(land -> land.drawn(number, false));
            add(land -> land.drawn(number, true));
            add(land -> land.losses(number));
            add(land -> land.points(number, 3));
        }
        add(Blazonry::erase);
    }

    private void fill() {
        add(Blazonry::nearest);
        for (int i = 0; i < 26; i++) {
            add(land -> land.type(22));
            add(Blazonry::wrongAt);
        }
        add(Blazonry::erase);
        add(Blazonry::wrongAt);
    }

    private void kin() {
        add(Blazonry::year);
        add(Blazonry::persons);
        add(Blazonry::armigerShare);
        for (int p = 0; p < land.persons(); p++) {
            int person = p;
            add(land -> land.lives(person));
            add(land -> land.spouse(person));
            add(land -> land.isHeiress(person));
            add(land -> land.lineOf(person));
        }
        add(land -> land.birth(-1, -1, true));
        add(land -> land.death(land.persons() - 1));
        add(land -> land.pass(100));
        add(land -> land.pass(1));
    }

    private void arms() {
        add(Blazonry::arms);
        add(Blazonry::disclaimed);
        add(Blazonry::allPoints);
        add(Blazonry::meanWords);
        add(Blazonry::isSound);
        for (int a = 0; a < land.arms(); a++) {
            int arms = a;
            add(land -> land.cameBy(arms));
            add(land -> land.yearOf(arms));
            add(land -> land.isInAbeyance(arms));
            add(land -> land.isExtinct(arms));
            add(land -> land.bearers(arms));
            add(land -> land.distance(0, arms));
            add(land -> land.augment(arms, 7, 55, 2));
        }
        add(Blazonry::allPoints);
    }

    private void bearers() {
        for (int p = 0; p < land.persons(); p++) {
            int person = p;
            add(land -> land.borne(person));
            add(land -> land.differences(person));
            add(land -> land.difference(person, 0));
            add(land -> land.quarters(person));
            add(land -> land.quarter(person, 1));
            add(land -> land.quarterBy(person, 1));
        }
    }

    private void shields() {
        for (int p = 0; p < land.persons(); p++) {
            int person = p;
            add(land -> land.shield(person, 2, 3));
            add(land -> land.shield(person, 2, 1));
            add(land -> land.ofShield(person, 7, 7));
            add(land -> land.conflicts(person, 0));
            add(land -> land.abate(person, true));
        }
    }

    private void court() {
        for (int j = 0; j < 21; j++) {
            int judgment = j;
            add(land -> land.judged(judgment));
            add(land -> land.stands(judgment));
        }
        for (int i = 0; i < 12; i++) {
            int number = i;
            add(land -> land.precedent(number / 3, number % 3));
        }
        for (int j = 0; j < 20; j++) {
            int judgment = j;
            add(land -> land.appeal(judgment));
            add(land -> land.sue(0, judgment));
        }
        for (int i = 0; i < 4; i++) {
            int of = i;
            add(land -> land.visit(of));
            add(land -> land.type(4));
            add(land -> land.grant(0, of));
            add(land -> land.call(of, 8));
        }
        for (int a = 0; a < land.arms(); a++) {
            int arms = a;
            add(land -> land.cameBy(arms));
        }
        add(Blazonry::disclaimed);
        for (int p = 0; p < land.persons(); p++) {
            int person = p;
            add(land -> land.borne(person));
        }
    }

    /** What is kept unseen comes out behind a call that changes something. */
    private void later() {
        add(land -> land.visit(3));
        add(land -> land.birth(-1, -1, false));
        for (int a = 0; a < land.arms(); a++) {
            int arms = a;
            add(land -> land.isInAbeyance(arms));
            add(land -> land.bearers(arms));
        }
        for (int p = 0; p < land.persons(); p++) {
            int person = p;
            add(land -> land.borne(person));
            add(land -> land.differences(person));
            add(land -> land.quarters(person));
        }
        for (int p = 0; p < land.persons(); p++) {
            int person = p;
            add(land -> land.death(person));
        }
    }

    private void ranks(int odd) {
        for (int p = odd; p < land.persons(); p += 2) {
            int person = p;
            add(land -> land.setRank(person, 4));
            add(land -> land.crest(person));
            add(land -> land.supporter(person, true));
            add(land -> land.supporter(person, false));
            add(land -> land.setCrest(person, 51));
            add(land -> land.setSupporters(person, 51, 51));
        }
    }
}
