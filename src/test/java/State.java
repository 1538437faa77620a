/** All that can be asked of a land, in one text: two texts are alike if nothing has changed between them. */
final class State {
    private final StringBuilder text = new StringBuilder();
    private final Blazonry land;

    private State(Blazonry land) {
        this.land = land;
    }

    static String of(Blazonry land) {
        State state = new State(land);
        state.row();
        state.add("year", land::year);
        state.add("persons", land::persons);
        state.add("arms", land::arms);
        state.add("disclaimed", land::disclaimed);
        state.add("allPoints", land::allPoints);
        state.add("armigerShare", land::armigerShare);
        state.add("meanWords", land::meanWords);
        state.add("nearest", land::nearest);
        for (int p = 0; p < land.persons(); p++) {
            state.person(p);
        }
        for (int a = 0; a < land.arms(); a++) {
            state.arms(a);
        }
        for (int j = 0; !Check.told(judged(land, j)).startsWith("throws"); j++) {
            int judgment = j;
            state.add("judged", judged(land, j));
            state.add("stands", () -> land.stands(judgment));
        }
        for (int l = 0; l < 4; l++) {
            for (int c = 0; c < 3; c++) {
                int of = l;
                int step = c;
                state.add("precedent", () -> land.precedent(of, step));
            }
        }
        return state.text.toString();
    }

    private static Check.Call judged(Blazonry land, int judgment) {
        return () -> land.judged(judgment);
    }

    private void add(String name, Check.Call call) {
        text.append(name).append('=').append(Check.told(call)).append('\n');
    }

    private void row() {
        add("wrongAt", land::wrongAt);
        add("fewest", land::fewest);
        add("losses", () -> land.losses(3));
        for (int i = 0; i < 24; i++) {
            int index = i;
            add("meant", () -> land.meant(index));
            add("word", () -> land.translated(0, index));
        }
        for (int t = 1; t < 9; t++) {
            int tincture = t;
            add("points", () -> land.points(2, tincture));
        }
    }

    private void person(int p) {
        add("lives", () -> land.lives(p));
        add("spouse", () -> land.spouse(p));
        add("isHeiress", () -> land.isHeiress(p));
        add("lineOf", () -> land.lineOf(p));
        add("borne", () -> land.borne(p));
        add("differences", () -> land.differences(p));
        for (int i = 0; i < 4; i++) {
            int index = i;
            add("difference", () -> land.difference(p, index));
            add("quarter", () -> land.quarter(p, index));
            add("quarterBy", () -> land.quarterBy(p, index));
        }
        add("quarters", () -> land.quarters(p));
        add("crest", () -> land.crest(p));
        add("right", () -> land.supporter(p, true));
        add("left", () -> land.supporter(p, false));
        for (int t = 1; t < 9; t++) {
            int tincture = t;
            add("shield", () -> land.shield(p, 2, tincture));
        }
        for (int l = 0; l < 4; l++) {
            int of = l;
            add("conflicts", () -> land.conflicts(p, of));
        }
    }

    private void arms(int a) {
        add("cameBy", () -> land.cameBy(a));
        add("yearOf", () -> land.yearOf(a));
        add("isInAbeyance", () -> land.isInAbeyance(a));
        add("isExtinct", () -> land.isExtinct(a));
        add("bearers", () -> land.bearers(a));
        for (int point = 0; point < 256; point++) {
            int x = point % 16;
            int y = point / 16;
            text.append(land.ofArms(a, x, y));
        }
    }
}
