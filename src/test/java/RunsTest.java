/**
 * Runs of 512 calls, the most that a desk is used for, of all methods in any order: every answer and every exception
 * is compared with that of a plain reading of the document.
 */
public final class RunsTest {
    public static void main(String[] args) {
        for (int run = 0; run < 100; run++) {
            fullDesk(run);
            newDesks(run);
        }
        for (int run = 0; run < 400; run++) {
            wildCalls(run);
        }
        Check.end();
    }

    /** All slots, all zones, eight changes and two rules are in use. */
    private static void fullDesk(int run) {
        AnyCalls calls = new AnyCalls(1000 + run);
        Twin twin = new Twin("full desk " + run);
        calls.fill(twin);
        while (!twin.isUsedUp()) {
            calls.next(twin);
        }
    }

    /** Two desks in turn, which must have nothing in common. */
    private static void newDesks(int run) {
        AnyCalls calls = new AnyCalls(2000 + run);
        Twin one = new Twin("new desk " + run);
        Twin other = new Twin("desk beside it " + run);
        while (!one.isUsedUp() || !other.isUsedUp()) {
            calls.next(one);
            calls.next(other);
        }
    }

    private static void wildCalls(int run) {
        AnyCalls calls = new AnyCalls(3000 + run);
        Twin twin = new Twin("wild calls " + run);
        while (!twin.isUsedUp()) {
            calls.wild(twin);
        }
    }
}
