/** The bounds that the document names for promises 57 to 63: of the empty land, of one thing, and of the full land. */
public final class EdgeCountTest {
    public static void main(String[] args) {
        years();
        persons();
        arms();
        allPoints();
        shares();
        means();
        sound();
        Check.end();
    }

    private static void years() {
        Blazonry land = new Blazonry();
        Check.due("the first", 0, land::year);
        for (int y = 1; y <= 50; y++) {
            land.pass(100);
            Check.due("the year", 100 * y, land::year);
        }
        Check.due("no more", "throws.IllegalStateException", () -> land.pass(1));
        Check.due("the last", 5000, land::year);
    }

    private static void persons() {
        Blazonry land = new Blazonry();
        for (int p = 0; p < 40; p++) {
            Check.due("persons", p, land::persons);
            land.birth(-1, -1, p % 2 == 0);
            Check.due("one more", p + 1, land::persons);
        }
        Check.due("no more", "throws.IllegalStateException", () -> land.birth(-1, -1, true));
        Check.due("persons", 40, land::persons);
    }

    private static void arms() {
        Blazonry land = new Blazonry();
        Lands.man(land, -1);
        for (int a = 0; a < 24; a++) {
            Check.due("arms", a, land::arms);
            Lands.grant(land, 0, a % 4, 1 + a % 8);
        }
        Check.due("arms", 24, land::arms);
        Check.typed(land, 3);
        Check.due("no more", "throws.IllegalStateException", () -> land.grant(0, 0));
        Check.due("arms", 24, land::arms);
    }

    /** For each arms its number plus 1 times the sum of the point plus 1 times its tincture. */
    private static void allPoints() {
        Blazonry land = new Blazonry();
        Check.due("none", 0, land::allPoints);
        Lands.man(land, -1);
        long want = 0;
        for (int a = 0; a < 24; a++) {
            Lands.grant(land, 0, a % 4, 8);
            want += (a + 1) * 8L * 32896;
            Check.due("arms", want, land::allPoints);
        }
        Check.due("the greatest", 78950400L, land::allPoints);
        Blazonry one = new Blazonry();
        Lands.man(one, -1);
        Lands.grant(one, 0, 0, 1, 61, 53, 2);
        Check.due("points 2, 18 and 34", 32896L + 54, one::allPoints);
        Lands.assume(one, 0, 1, 1, 61, 53, 2);
        Check.due("twice", 3 * (32896L + 54), one::allPoints);
        one.visit(1);
        Check.due("void ones too", 3 * (32896L + 54), one::allPoints);
        one.augment(0, 1, 56, 1);
        Check.due("augmented", 32896L + 2 * (32896L + 54), one::allPoints);
    }

    /** Both converted to float. */
    private static void shares() {
        for (int living = 1; living <= 40; living++) {
            Blazonry land = new Blazonry();
            for (int p = 0; p < living; p++) {
                Lands.man(land, -1);
            }
            Check.due("nobody bears arms", 0.0f, land::armigerShare);
            for (int p = 0; p < Math.min(living, 7); p++) {
                Lands.assume(land, p, 0, 3);
                Check.due("some do", (p + 1) / (float) living, land::armigerShare);
            }
        }
        Blazonry land = new Blazonry();
        Lands.man(land, -1);
        Lands.grant(land, 0, 0, 3);
        Check.due("all", 1.0f, land::armigerShare);
        Lands.man(land, -1);
        land.death(1);
        Check.due("of the living ones", 1.0f, land::armigerShare);
        Twin.refused("nobody lives", ArithmeticException.class, () -> {
            Blazonry dead = new Blazonry();
            Lands.man(dead, -1);
            Lands.grant(dead, 0, 0, 3);
            dead.death(0);
            return dead;
        }, Blazonry::armigerShare);
        Twin.refused("there is nobody", ArithmeticException.class, Lands.EMPTY, Blazonry::armigerShare);
    }

    /** Both converted to double. */
    private static void means() {
        Blazonry land = new Blazonry();
        Lands.man(land, -1);
        Twin.refused("no arms", ArithmeticException.class, Lands.EMPTY, Blazonry::meanWords);
        Check.due("no arms", "throws.ArithmeticException", land::meanWords);
        int sum = 0;
        for (int a = 0; a < 24; a++) {
            int[] words = a % 3 == 0 ? Lands.TWENTY_FOUR : a % 3 == 1 ? new int[] {3} : new int[] {3, 22, 1};
            Lands.grant(land, 0, a % 4, words);
            sum += words.length;
            Check.due("mean", (double) sum / (double) (a + 1), land::meanWords);
        }
        Check.due("24 arms", 28.0 / 3.0, land::meanWords);
    }

    private static void sound() {
        for (Twin.Maker maker : new Twin.Maker[] {Lands.EMPTY, Lands.FAMILY, Lands.FULL}) {
            Blazonry land = maker.make();
            String before = State.of(land);
            Check.due("sound", true, land::isSound);
            Check.same("asked for alone", before, State.of(land));
            Check.due("and again", true, land::isSound);
        }
    }
}
