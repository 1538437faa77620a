import java.util.NoSuchElementException;

/** Promises 50 to 56: ranks, crests, supporters, augmentations and abatements. */
public final class RankTest {
    public static void main(String[] args) {
        ranks();
        crests();
        inheritedCrests();
        crestsOfTheDead();
        crestsOfVoidArms();
        supporters();
        augmentations();
        abatements();
        wrongInputs();
        Check.end();
    }

    private static int man(Blazonry land, int father) {
        return land.birth(father, -1, true);
    }

    private static void ranks() {
        Blazonry land = new Blazonry();
        man(land, -1);
        Check.due("0 at first", 0, () -> land.setRank(0, 4));
        Check.due("4 before", 4, () -> land.setRank(0, 0));
        Check.due("0 before", 0, () -> land.setRank(0, 2));
        land.death(0);
        Check.due("2 before", 2, () -> land.setRank(0, 1));
    }

    private static void crests() {
        Blazonry land = new Blazonry();
        man(land, -1);
        Check.due("none told", 0, () -> land.setCrest(0, 51));
        Check.refused(land, "rank 0", NoSuchElementException.class, () -> land.crest(0));
        land.setRank(0, 1);
        Check.due("rank 1", 51, () -> land.crest(0));
        Check.due("told before", 51, () -> land.setCrest(0, 58));
        Check.due("the last told", 58, () -> land.crest(0));
        land.setRank(0, 0);
        Check.refused(land, "rank 0 again", NoSuchElementException.class, () -> land.crest(0));
        man(land, -1);
        land.setRank(1, 4);
        Check.refused(land, "none told", NoSuchElementException.class, () -> land.crest(1));
    }

    private static void inheritedCrests() {
        Blazonry land = new Blazonry();
        int first = man(land, -1);
        int heir = man(land, first);
        int second = man(land, first);
        int grandson = man(land, heir);
        int daughter = land.birth(first, -1, false);
        Check.typed(land, 3).grant(first, 0);
        land.setCrest(first, 53);
        for (int p : new int[] {heir, second, grandson, daughter}) {
            land.setRank(p, 1);
            Check.refused(land, "father lives", NoSuchElementException.class, () -> land.crest(p));
        }
        land.death(first);
        Check.due("the heir", 53, () -> land.crest(heir));
        Check.due("not as one that he told", 0, () -> land.setCrest(second, 57));
        Check.due("the second told one", 57, () -> land.crest(second));
        Check.refused(land, "no daughter", NoSuchElementException.class, () -> land.crest(daughter));
        Check.refused(land, "not yet", NoSuchElementException.class, () -> land.crest(grandson));
        land.death(heir);
        Check.due("in his turn", 53, () -> land.crest(grandson));
        Check.typed(land, 5).grant(grandson, 0);
        Check.refused(land, "he bears other arms", NoSuchElementException.class, () -> land.crest(grandson));
        land.setCrest(grandson, 55);
        Check.due("told", 55, () -> land.crest(grandson));

        Blazonry other = new Blazonry();
        man(other, -1);
        man(other, 0);
        man(other, 1);
        Check.typed(other, 3).grant(0, 0);
        other.setCrest(0, 53);
        other.setRank(2, 1);
        other.death(0);
        other.setCrest(1, 54);
        other.death(1);
        Check.due("what his father told", 54, () -> other.crest(2));

        Blazonry bare = new Blazonry();
        man(bare, -1);
        man(bare, 0);
        bare.setCrest(0, 53);
        bare.setRank(1, 1);
        bare.death(0);
        Check.refused(bare, "no arms", NoSuchElementException.class, () -> bare.crest(1));
    }

    /** Who died as an heir still has what his forefathers told, whenever they told it. */
    private static void crestsOfTheDead() {
        Blazonry land = new Blazonry();
        int first = man(land, -1);
        int heir = man(land, first);
        int second = man(land, first);
        int grandson = man(land, heir);
        int last = man(land, grandson);
        int early = man(land, first);
        Check.typed(land, 3).grant(first, 0);
        for (int p = 0; p <= early; p++) {
            land.setRank(p, 1);
        }
        land.death(early);
        for (int p : new int[] {first, second, heir, grandson}) {
            land.death(p);
        }
        land.setCrest(first, 53);
        for (int p : new int[] {first, heir, grandson, last}) {
            Check.due("told by the dead", 53, () -> land.crest(p));
        }
        for (int p : new int[] {second, early}) {
            Check.refused(land, "died as no heir", NoSuchElementException.class, () -> land.crest(p));
        }
        land.setCrest(first, 54);
        Check.due("told anew", 54, () -> land.crest(heir));
        Check.due("told anew", 54, () -> land.crest(last));
        land.setCrest(heir, 55);
        Check.due("his own", 55, () -> land.crest(heir));
        Check.due("of the nearer one", 55, () -> land.crest(grandson));
        Check.due("of the nearer one", 55, () -> land.crest(last));
        land.death(last);
        Check.due("and dead", 55, () -> land.crest(last));

        Blazonry other = new Blazonry();
        man(other, -1);
        man(other, 0);
        man(other, 1);
        Check.typed(other, 3).grant(0, 0);
        other.setRank(1, 1);
        other.setRank(2, 1);
        other.death(0);
        Check.typed(other, 5).grant(1, 0);
        other.setCrest(0, 53);
        other.death(1);
        Check.refused(other, "died with other arms", NoSuchElementException.class, () -> other.crest(1));
        Check.refused(other, "nor had so in turn", NoSuchElementException.class, () -> other.crest(2));
    }

    /** No crest goes with arms as long as they are void. */
    private static void crestsOfVoidArms() {
        Blazonry land = new Blazonry();
        int first = man(land, -1);
        int heir = man(land, first);
        int grandson = man(land, heir);
        int rival = man(land, -1);
        Check.typed(land, 1).grant(first, 0);
        land.setCrest(first, 53);
        land.setRank(first, 1);
        land.setRank(heir, 1);
        land.setRank(grandson, 1);
        land.death(first);
        land.death(heir);
        Check.typed(land, 1, 62, 56, 5).assume(rival, 0);
        land.pass(60);
        Check.due("sue", 0, () -> land.sue(rival, grandson));
        Check.due("void", 'v', () -> land.cameBy(0));
        Check.refused(land, "the dead heir", NoSuchElementException.class, () -> land.crest(heir));
        Check.refused(land, "the living one", NoSuchElementException.class, () -> land.crest(grandson));
        Check.due("what he told himself", 53, () -> land.crest(first));
        Check.due("appeal", 1, () -> land.appeal(0));
        Check.due("as before", 53, () -> land.crest(heir));
        Check.due("as before", 53, () -> land.crest(grandson));
    }

    private static void supporters() {
        Blazonry land = new Blazonry();
        man(land, -1);
        man(land, 0);
        Check.due("none before", false, () -> land.setSupporters(0, 51, 58));
        land.setRank(0, 2);
        Check.refused(land, "rank 2", NoSuchElementException.class, () -> land.supporter(0, true));
        land.setRank(0, 3);
        Check.due("right", 51, () -> land.supporter(0, true));
        Check.due("left", 58, () -> land.supporter(0, false));
        Check.due("some before", true, () -> land.setSupporters(0, 52, 53));
        land.setRank(0, 4);
        Check.due("right", 52, () -> land.supporter(0, true));
        Check.due("left", 53, () -> land.supporter(0, false));
        Check.typed(land, 3).grant(0, 0);
        land.setRank(1, 4);
        land.death(0);
        Check.refused(land, "not inherited", NoSuchElementException.class, () -> land.supporter(1, true));
        Check.refused(land, "nor left", NoSuchElementException.class, () -> land.supporter(1, false));
    }

    private static void augmentations() {
        Blazonry land = new Blazonry();
        man(land, -1);
        Check.typed(land, 3, 26, 1).grant(0, 0);
        Check.due("the first", true, () -> land.augment(0, 1, 54, 5));
        Check.due("square", 1, () -> land.ofArms(0, 0, 0));
        Check.due("charge", 5, () -> land.ofArms(0, 1, 2));
        Check.due("no charge", 1, () -> land.ofArms(0, 1, 1));
        Check.due("corner", 1, () -> land.ofArms(0, 4, 4));
        Check.due("beside", 1, () -> land.ofArms(0, 5, 5));
        Check.due("beside", 3, () -> land.ofArms(0, 5, 3));
        Check.due("a later one", false, () -> land.augment(0, 8, 53, 8));
        Check.due("takes its place", 8, () -> land.ofArms(0, 1, 2));
        Check.due("isSound", true, land::isSound);
    }

    private static void abatements() {
        Blazonry land = new Blazonry();
        man(land, -1);
        Check.due("not before", false, () -> land.abate(0, true));
        Check.due("before", true, () -> land.abate(0, true));
        Check.due("before", true, () -> land.abate(0, false));
        Check.due("not any more", false, () -> land.abate(0, false));
        Check.typed(land, 3).grant(0, 0);
        land.abate(0, true);
        Check.due("shield", 16, () -> land.shield(0, 2, 7));
        land.abate(0, false);
        Check.due("shield", 0, () -> land.shield(0, 2, 7));
    }

    private static void wrongInputs() {
        Blazonry land = new Blazonry();
        man(land, -1);
        Check.typed(land, 3).assume(0, 0);
        for (int number : new int[] {-1, 1, 24, 40, Integer.MIN_VALUE, Integer.MAX_VALUE}) {
            Check.refused(land, "setRank", IndexOutOfBoundsException.class, () -> land.setRank(number, 9));
            Check.refused(land, "setCrest", IndexOutOfBoundsException.class, () -> land.setCrest(number, 9));
            Check.refused(land, "crest", IndexOutOfBoundsException.class, () -> land.crest(number));
            Check.refused(land, "setSupporters", IndexOutOfBoundsException.class,
                    () -> land.setSupporters(number, 9, 9));
            Check.refused(land, "supporter", IndexOutOfBoundsException.class, () -> land.supporter(number, true));
            Check.refused(land, "augment", IndexOutOfBoundsException.class, () -> land.augment(number, 9, 9, 9));
            Check.refused(land, "abate", IndexOutOfBoundsException.class, () -> land.abate(number, true));
        }
        for (int rank : new int[] {-1, 5}) {
            Check.refused(land, "rank", IllegalArgumentException.class, () -> land.setRank(0, rank));
        }
        for (int charge : new int[] {50, 59, 0}) {
            Check.refused(land, "crest", IllegalArgumentException.class, () -> land.setCrest(0, charge));
            Check.refused(land, "right", IllegalArgumentException.class, () -> land.setSupporters(0, charge, 51));
            Check.refused(land, "left", IllegalArgumentException.class, () -> land.setSupporters(0, 51, charge));
            Check.refused(land, "augment", IllegalArgumentException.class, () -> land.augment(0, 1, charge, 1));
        }
        for (int tincture : new int[] {0, 9, -1}) {
            Check.refused(land, "square", IllegalArgumentException.class, () -> land.augment(0, tincture, 51, 1));
            Check.refused(land, "charge", IllegalArgumentException.class, () -> land.augment(0, 1, 51, tincture));
        }
        land.visit(0);
        Check.refused(land, "void", UnsupportedOperationException.class, () -> land.augment(0, 1, 51, 1));
        Check.refused(land, "no tincture first", IllegalArgumentException.class, () -> land.augment(0, 9, 51, 1));
    }
}
