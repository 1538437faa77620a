/** Promise 1: a new land has nothing in it. */
public final class FirstTest {
    public static void main(String[] args) {
        Blazonry land = new Blazonry();
        Check.due("persons", 0, land::persons);
        Check.due("arms", 0, land::arms);
        Check.due("year", 0, land::year);
        Check.due("erase", 0, land::erase);
        Check.due("wrongAt", 0, land::wrongAt);
        Check.due("disclaimed", 0, land::disclaimed);
        Check.due("allPoints", 0, land::allPoints);
        Check.due("isSound", true, land::isSound);
        Check.due("lives", "throws.IndexOutOfBoundsException", () -> land.lives(0));
        Check.due("cameBy", "throws.IndexOutOfBoundsException", () -> land.cameBy(0));
        Check.due("judged", "throws.IndexOutOfBoundsException", () -> land.judged(0));
        Check.end();
    }
}
