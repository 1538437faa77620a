import java.util.NoSuchElementException;

/** Promises 14 to 21: years, births, deaths, marriages, heiresses and lines. */
public final class KinTest {
    public static void main(String[] args) {
        years();
        births();
        deaths();
        marriages();
        heiresses();
        lines();
        wrongInputs();
        Check.end();
    }

    static int man(Blazonry land, int father, int mother) {
        return land.birth(father, mother, true);
    }

    static int woman(Blazonry land, int father, int mother) {
        return land.birth(father, mother, false);
    }

    private static void years() {
        Blazonry land = new Blazonry();
        Check.refused(land, "pass 0", IllegalArgumentException.class, () -> land.pass(0));
        Check.refused(land, "pass 101", IllegalArgumentException.class, () -> land.pass(101));
        Check.refused(land, "pass -1", IllegalArgumentException.class, () -> land.pass(-1));
        Check.due("pass 1", 1, () -> land.pass(1));
        Check.due("pass 100", 101, () -> land.pass(100));
        for (int i = 0; i < 48; i++) {
            land.pass(100);
        }
        Check.due("year", 4901, land::year);
        Check.refused(land, "pass to 5001", IllegalStateException.class, () -> land.pass(100));
        Check.due("pass to 5000", 5000, () -> land.pass(99));
        Check.refused(land, "pass to 5001", IllegalStateException.class, () -> land.pass(1));
        Check.refused(land, "a wrong number first", IllegalArgumentException.class, () -> land.pass(101));
    }

    private static void births() {
        Blazonry land = new Blazonry();
        Check.due("first man", 0, () -> man(land, -1, -1));
        Check.due("first woman", 1, () -> woman(land, -1, -1));
        Check.due("child of both", 2, () -> man(land, 0, 1));
        Check.due("child of the father", 3, () -> woman(land, 0, -1));
        Check.due("child of the mother", 4, () -> woman(land, -1, 3));
        Check.refused(land, "father -2", IndexOutOfBoundsException.class, () -> man(land, -2, -1));
        Check.refused(land, "mother -2", IndexOutOfBoundsException.class, () -> man(land, -1, -2));
        Check.refused(land, "father 5", IndexOutOfBoundsException.class, () -> man(land, 5, -1));
        Check.refused(land, "mother 5", IndexOutOfBoundsException.class, () -> man(land, 0, 5));
        Check.refused(land, "no father before all", IndexOutOfBoundsException.class, () -> man(land, 1, 9));
        Check.refused(land, "a woman as father", UnsupportedOperationException.class, () -> man(land, 1, -1));
        Check.refused(land, "a man as mother", UnsupportedOperationException.class, () -> man(land, -1, 0));
        for (int p = 5; p < 40; p++) {
            int number = p;
            Check.due("birth", number, () -> man(land, 0, -1));
        }
        Check.refused(land, "a 41st", IllegalStateException.class, () -> man(land, 0, 1));
        Check.refused(land, "a wrong 41st", UnsupportedOperationException.class, () -> man(land, 1, 1));
        Check.refused(land, "no father of a 41st", IndexOutOfBoundsException.class, () -> man(land, 40, 1));
        Check.due("persons", 40, land::persons);
        Blazonry other = new Blazonry();
        man(other, -1, -1);
        other.death(0);
        Check.due("child of a dead man", 1, () -> man(other, 0, -1));
        Check.due("lives", true, () -> other.lives(1));
    }

    private static void deaths() {
        Blazonry land = new Blazonry();
        man(land, -1, -1);
        woman(land, 0, -1);
        woman(land, 0, -1);
        Check.typed(land, 3, 22, 1);
        land.grant(0, 0);
        Check.due("lives", true, () -> land.lives(0));
        Check.due("death of the father", 1, () -> land.death(0));
        Check.due("lives no more", false, () -> land.lives(0));
        Check.refused(land, "death of the dead", UnsupportedOperationException.class, () -> land.death(0));
        Check.due("death of a daughter", 0, () -> land.death(1));
        Check.due("other lives", true, () -> land.lives(2));
    }

    private static void marriages() {
        Blazonry land = new Blazonry();
        man(land, -1, -1);
        man(land, -1, -1);
        woman(land, 0, -1);
        woman(land, 1, -1);
        Check.refused(land, "spouse of none", NoSuchElementException.class, () -> land.spouse(2));
        Check.refused(land, "two men", UnsupportedOperationException.class, () -> land.marry(0, 1));
        Check.refused(land, "two women", UnsupportedOperationException.class, () -> land.marry(2, 3));
        Check.refused(land, "woman first", UnsupportedOperationException.class, () -> land.marry(3, 0));
        Check.due("marry", false, () -> land.marry(1, 2));
        Check.due("wife", 2, () -> land.spouse(1));
        Check.due("husband", 1, () -> land.spouse(2));
        Check.refused(land, "his second", UnsupportedOperationException.class, () -> land.marry(1, 3));
        Check.refused(land, "her second", UnsupportedOperationException.class, () -> land.marry(0, 2));
        land.death(2);
        Check.refused(land, "a widower's wife", NoSuchElementException.class, () -> land.spouse(1));
        Check.refused(land, "a dead one's husband", NoSuchElementException.class, () -> land.spouse(2));
        Check.refused(land, "a dead wife", UnsupportedOperationException.class, () -> land.marry(0, 2));
        Check.due("again", false, () -> land.marry(1, 3));
        land.death(1);
        Check.refused(land, "a widow's husband", NoSuchElementException.class, () -> land.spouse(3));
        Check.refused(land, "a dead husband", UnsupportedOperationException.class, () -> land.marry(1, 3));
        Check.due("an heiress", true, () -> land.marry(0, 3));
        Blazonry first = new Blazonry();
        woman(first, -1, -1);
        man(first, -1, -1);
        woman(first, -1, -1);
        man(first, -1, -1);
        first.marry(1, 0);
        Check.refused(first, "whose wife is the first", UnsupportedOperationException.class, () -> first.marry(1, 2));
        Check.refused(first, "the first again", UnsupportedOperationException.class, () -> first.marry(3, 0));
        Check.due("husband of the first", 1, () -> first.spouse(0));
        Check.due("wife of the second", 0, () -> first.spouse(1));
        Blazonry last = new Blazonry();
        man(last, -1, -1);
        woman(last, -1, -1);
        man(last, -1, -1);
        last.marry(0, 1);
        Check.refused(last, "whose husband is the first", UnsupportedOperationException.class, () -> last.marry(2, 1));
    }

    private static void heiresses() {
        Blazonry land = new Blazonry();
        int father = man(land, -1, -1);
        int daughter = woman(land, father, -1);
        int son = man(land, father, -1);
        int grandson = man(land, son, -1);
        int alone = woman(land, -1, daughter);
        Check.due("father lives", false, () -> land.isHeiress(daughter));
        land.death(father);
        Check.due("brother lives", false, () -> land.isHeiress(daughter));
        land.death(son);
        Check.due("nephew lives", false, () -> land.isHeiress(daughter));
        land.death(grandson);
        Check.due("nobody lives", true, () -> land.isHeiress(daughter));
        Check.due("a man never", false, () -> land.isHeiress(son));
        Check.due("no father told", false, () -> land.isHeiress(alone));
        land.death(daughter);
        Check.due("dead as well", true, () -> land.isHeiress(daughter));
        man(land, son, -1);
        Check.due("somebody is born", false, () -> land.isHeiress(daughter));
        int sister = woman(land, father, -1);
        Check.due("his sister's line is none", false, () -> land.isHeiress(sister));
        land.death(5);
        Check.due("as things are now", true, () -> land.isHeiress(sister));
        man(land, -1, sister);
        Check.due("sons of daughters are no line", true, () -> land.isHeiress(sister));
    }

    private static void lines() {
        Blazonry land = new Blazonry();
        int first = man(land, -1, -1);
        int son = man(land, first, -1);
        int daughter = woman(land, first, -1);
        int grandson = man(land, son, -1);
        man(land, -1, daughter);
        man(land, grandson, daughter);
        woman(land, grandson, -1);
        Check.due("line", 3, () -> land.lineOf(first));
        Check.due("line of the son", 2, () -> land.lineOf(son));
        Check.due("a woman has none", 0, () -> land.lineOf(daughter));
        land.death(son);
        Check.due("without the dead", 2, () -> land.lineOf(first));
        Check.due("of the dead", 2, () -> land.lineOf(son));
        land.death(first);
        Check.due("a death of the first changes nothing", 2, () -> land.lineOf(first));
        land.death(daughter);
        Check.due("nor one of a woman", 2, () -> land.lineOf(first));
    }

    private static void wrongInputs() {
        Blazonry land = new Blazonry();
        man(land, -1, -1);
        woman(land, -1, -1);
        for (int person : new int[] {-1, 2, 40, Integer.MAX_VALUE, Integer.MIN_VALUE}) {
            Check.refused(land, "death", IndexOutOfBoundsException.class, () -> land.death(person));
            Check.refused(land, "marry him", IndexOutOfBoundsException.class, () -> land.marry(person, 1));
            Check.refused(land, "marry her", IndexOutOfBoundsException.class, () -> land.marry(0, person));
            Check.refused(land, "marry, a wrong man", IndexOutOfBoundsException.class, () -> land.marry(1, person));
            Check.refused(land, "lives", IndexOutOfBoundsException.class, () -> land.lives(person));
            Check.refused(land, "spouse", IndexOutOfBoundsException.class, () -> land.spouse(person));
            Check.refused(land, "isHeiress", IndexOutOfBoundsException.class, () -> land.isHeiress(person));
            Check.refused(land, "lineOf", IndexOutOfBoundsException.class, () -> land.lineOf(person));
        }
    }
}
