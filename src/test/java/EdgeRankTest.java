import java.util.NoSuchElementException;

/** The bounds that the document names for promises 50 to 56, and in the section Ranks. */
public final class EdgeRankTest {
    private static final int[] NO_CHARGES = {Integer.MIN_VALUE, -1, 0, 50, 59, Integer.MAX_VALUE};
    private static final int[] NO_TINCTURES = {Integer.MIN_VALUE, -1, 0, 9, 35, Integer.MAX_VALUE};
    private static final int[] NOBODY = {Integer.MIN_VALUE, -1, 14, 40, Integer.MAX_VALUE};

    public static void main(String[] args) {
        ranks();
        crestsByRank();
        crestsTold();
        heirsCrests();
        supportersByRank();
        supportersTold();
        augmentations();
        refusedAugmentations();
        abatements();
        Check.end();
    }

    private static Blazonry man() {
        Blazonry land = new Blazonry();
        Lands.man(land, -1);
        return land;
    }

    /** A rank, 0 to 4, 0 at first; returns the one before. */
    private static void ranks() {
        for (int first = 0; first <= 4; first++) {
            for (int second = 0; second <= 4; second++) {
                Blazonry land = man();
                int one = first;
                int other = second;
                Check.due("0 at first", 0, () -> land.setRank(0, one));
                Check.due("the one before", one, () -> land.setRank(0, other));
                Check.due("the one before", other, () -> land.setRank(0, 0));
            }
        }
        for (int rank : new int[] {Integer.MIN_VALUE, -1, 5, Integer.MAX_VALUE}) {
            Twin.refused("rank", IllegalArgumentException.class, Lands.FAMILY, land -> land.setRank(2, rank));
            for (int person : NOBODY) {
                Twin.refused("nobody first", IndexOutOfBoundsException.class, Lands.FAMILY,
                        land -> land.setRank(person, rank));
            }
        }
        Check.due("a woman", 0, () -> Lands.FAMILY.make().setRank(1, 4));
        Check.due("the dead", 0, () -> Lands.FAMILY.make().setRank(7, 4));
        Blazonry two = man();
        Lands.man(two, -1);
        two.setRank(0, 3);
        Check.due("each person's own", 0, () -> two.setRank(1, 1));
    }

    /** A crest is shown from the rank 1 on. */
    private static void crestsByRank() {
        for (int rank = 0; rank <= 4; rank++) {
            Blazonry land = man();
            land.setCrest(0, 57);
            land.setRank(0, rank);
            Check.due("rank " + rank, rank < 1 ? "throws.NoSuchElementException" : "57", () -> land.crest(0));
            Check.due("none told", "throws.NoSuchElementException", () -> {
                Blazonry bare = man();
                bare.setRank(0, 4);
                return bare.crest(0);
            });
            land.death(0);
            Check.due("dead", rank < 1 ? "throws.NoSuchElementException" : "57", () -> land.crest(0));
        }
        Twin.refused("rank 0", NoSuchElementException.class, Lands.FAMILY, land -> land.crest(0));
        Twin.refused("none told", NoSuchElementException.class, Lands.FAMILY, land -> land.crest(2));
    }

    /** charge: 51 to 58; returns the one told before, or 0. */
    private static void crestsTold() {
        for (int charge = 51; charge <= 58; charge++) {
            Blazonry land = man();
            int told = charge;
            land.setRank(0, 1);
            Check.due("none before", 0, () -> land.setCrest(0, told));
            Check.due("shown", told, () -> land.crest(0));
            Check.due("the one before", told, () -> land.setCrest(0, 109 - told));
            Check.due("shown", 109 - told, () -> land.crest(0));
        }
        for (int charge : NO_CHARGES) {
            Twin.refused("no charge", IllegalArgumentException.class, Lands.FAMILY, land -> land.setCrest(0, charge));
            for (int person : NOBODY) {
                Twin.refused("nobody first", IndexOutOfBoundsException.class, Lands.FAMILY,
                        land -> land.setCrest(person, charge));
            }
        }
    }

    /** Or, of an heir who bears his father's arms, that which his father told, or had so in his turn. */
    private static void heirsCrests() {
        int last = 39;
        Blazonry land = new Blazonry();
        for (int p = 0; p < 40; p++) {
            Lands.man(land, p - 1);
        }
        Lands.grant(land, 0, 0, 3);
        land.setCrest(0, 58);
        land.setRank(last, 1);
        for (int p = 0; p < last; p++) {
            Check.due("not yet", "throws.NoSuchElementException", () -> land.crest(last));
            land.death(p);
        }
        Check.due("from 39 generations on", 58, () -> land.crest(last));
        Check.due("not his own", 0, () -> land.setCrest(20, 51));
        Check.due("of the nearest", 51, () -> land.crest(last));
        land.setRank(last, 0);
        Check.due("by his rank", "throws.NoSuchElementException", () -> land.crest(last));
        Blazonry backwards = new Blazonry();
        for (int p = 0; p < 3; p++) {
            Lands.man(backwards, p - 1);
        }
        Lands.grant(backwards, 0, 0, 3);
        backwards.setCrest(0, 58);
        backwards.setRank(1, 1);
        backwards.setRank(2, 1);
        backwards.death(1);
        backwards.death(0);
        Check.due("who died ahead of his father was no heir", "throws.NoSuchElementException", () -> backwards.crest(1));
        Check.due("nor is his son one of a dead heir", "throws.NoSuchElementException", () -> backwards.crest(2));
    }

    /** Supporters are shown from the rank 3 on, by those who told them. */
    private static void supportersByRank() {
        for (int rank = 0; rank <= 4; rank++) {
            Blazonry land = man();
            land.setSupporters(0, 51, 58);
            land.setRank(0, rank);
            Check.due("right " + rank, rank < 3 ? "throws.NoSuchElementException" : "51", () -> land.supporter(0, true));
            Check.due("left " + rank, rank < 3 ? "throws.NoSuchElementException" : "58", () -> land.supporter(0, false));
            Lands.man(land, 0);
            Lands.grant(land, 0, 0, 3);
            land.setRank(1, 4);
            land.death(0);
            Check.due("not by the heir", "throws.NoSuchElementException", () -> land.supporter(1, true));
            Check.due("nor left", "throws.NoSuchElementException", () -> land.supporter(1, false));
        }
        for (boolean isRight : new boolean[] {true, false}) {
            Twin.refused("rank 0", NoSuchElementException.class, Lands.FAMILY, land -> land.supporter(0, isRight));
            Twin.refused("none told", NoSuchElementException.class, Lands.FAMILY, land -> {
                return land.supporter(10, isRight);
            });
        }
    }

    /** right, left: 51 to 58; returns whether some were told before. */
    private static void supportersTold() {
        for (int charge = 51; charge <= 58; charge++) {
            Blazonry land = man();
            land.setRank(0, 3);
            int right = charge;
            Check.due("none before", false, () -> land.setSupporters(0, right, 109 - right));
            Check.due("right", right, () -> land.supporter(0, true));
            Check.due("left", 109 - right, () -> land.supporter(0, false));
            Check.due("some before", true, () -> land.setSupporters(0, 109 - right, right));
            Check.due("right", 109 - right, () -> land.supporter(0, true));
            Check.due("left", right, () -> land.supporter(0, false));
        }
        for (int charge : NO_CHARGES) {
            Twin.refused("right", IllegalArgumentException.class, Lands.FAMILY,
                    land -> land.setSupporters(0, charge, 51));
            Twin.refused("left", IllegalArgumentException.class, Lands.FAMILY,
                    land -> land.setSupporters(0, 58, charge));
            Twin.refused("both", IllegalArgumentException.class, Lands.FAMILY,
                    land -> land.setSupporters(10, charge, charge));
            for (int person : NOBODY) {
                Twin.refused("nobody first", IndexOutOfBoundsException.class, Lands.FAMILY,
                        land -> land.setSupporters(person, charge, charge));
            }
        }
    }

    /** tincture, charged: 1 to 8; charge: 51 to 58; returns whether they were not augmented; a later one takes its place. */
    private static void augmentations() {
        for (int tincture = 1; tincture <= 8; tincture++) {
            for (int charge = 51; charge <= 58; charge++) {
                Blazonry land = man();
                Lands.grant(land, 0, 0, 3, 28, 2);
                Blazonry drawn = Check.row(3, 61, charge, 2);
                int square = tincture;
                int with = charge;
                int charged = 9 - tincture;
                Check.due("the first", true, () -> land.augment(0, square, with, charged));
                for (int point = 0; point < 36; point++) {
                    int x = point % 6;
                    int y = point / 6;
                    boolean isInside = x >= 1 && x <= 3 && y >= 1 && y <= 3;
                    boolean isCharge = isInside && drawn.point(x - 1, y - 1) == 2;
                    int want = isCharge ? charged : x < 5 && y < 5 ? square : x < 2 || y < 2 ? 2 : 3;
                    Check.due("point", want, () -> land.ofArms(0, x, y));
                }
                Check.due("a later one", false, () -> land.augment(0, charged, 109 - with, square));
                Check.due("takes its place", charged, () -> land.ofArms(0, 4, 4));
                Check.due("and again", false, () -> land.augment(0, square, with, charged));
                Check.due("takes its place", square, () -> land.ofArms(0, 0, 0));
            }
        }
        Check.due("one tincture for both", true, () -> Lands.FAMILY.make().augment(0, 8, 58, 8));
        Check.due("each arms of their own", true, () -> Lands.FAMILY.make().augment(0, 1, 51, 1));
        Check.due("augmented already", false, () -> Lands.FAMILY.make().augment(3, 1, 51, 1));
    }

    /** IndexOutOfBoundsException, IllegalArgumentException, UnsupportedOperationException, in this order. */
    private static void refusedAugmentations() {
        for (int arms : new int[] {0, 4, 5}) {
            for (int wrong : NO_TINCTURES) {
                Twin.refused("square", IllegalArgumentException.class, Lands.FAMILY,
                        land -> land.augment(arms, wrong, 51, 1));
                Twin.refused("charge", IllegalArgumentException.class, Lands.FAMILY,
                        land -> land.augment(arms, 8, 58, wrong));
            }
            for (int wrong : NO_CHARGES) {
                Twin.refused("charge", IllegalArgumentException.class, Lands.FAMILY,
                        land -> land.augment(arms, 1, wrong, 8));
            }
        }
        for (int arms : new int[] {Integer.MIN_VALUE, -1, 6, 24, Integer.MAX_VALUE}) {
            Twin.refused("no arms", IndexOutOfBoundsException.class, Lands.FAMILY, land -> land.augment(arms, 0, 50, 9));
        }
        Twin.refused("void by a judgment", UnsupportedOperationException.class, Lands.FAMILY,
                land -> land.augment(4, 1, 51, 8));
        Twin.refused("void by a visitation", UnsupportedOperationException.class, Lands.FAMILY,
                land -> land.augment(5, 8, 58, 1));
    }

    /** Returns whether it was. */
    private static void abatements() {
        for (int way = 0; way < 8; way++) {
            Blazonry land = man();
            Lands.grant(land, 0, 0, 3);
            boolean was = false;
            for (int i = 0; i < 3; i++) {
                boolean is = (way >> i & 1) == 1;
                Check.due("whether it was", was, () -> land.abate(0, is));
                Check.due("points", is ? 16 : 0, () -> land.shield(0, 2, 7));
                was = is;
            }
        }
        Check.due("the dead", false, () -> Lands.FAMILY.make().abate(7, true));
        Check.due("without arms", false, () -> Lands.FAMILY.make().abate(10, true));
        Check.due("abated", true, () -> Lands.FAMILY.make().abate(3, false));
    }
}
