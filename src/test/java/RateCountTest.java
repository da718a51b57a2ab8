/** Promises 12 and 13: rate, count. */
public final class RateCountTest {
    private static final Check CHECK = new Check("RateCountTest");

    public static void main(String[] args) {
        ratesAreWhole();
        rateIsRefused();
        countsAreTold();
        CHECK.end();
    }

    private static void ratesAreWhole() {
        LockRuns lock = new LockRuns();
        int[][] rates = {{5, 7, 42}, {0, 1, 0}, {0, 1000, 0}, {1000, 1, 60000}, {1000, 1000, 60},
            {1, 60, 1}, {1, 61, 0}, {1, 59, 1}, {1, 31, 1}, {3, 100, 1}, {999, 1000, 59}};
        for (int[] r : rates) {
            CHECK.due("rate(" + r[0] + ", " + r[1] + ")", r[2], lock.rate(r[0], r[1]));
        }
    }

    private static void rateIsRefused() {
        LockRuns lock = new LockRuns();
        int[] wrong = {-1, 1001, Integer.MIN_VALUE, Integer.MAX_VALUE};
        for (int w : wrong) {
            CHECK.refused("rate(" + w + ", 1)", Check.ARGUMENT, () -> lock.rate(w, 1));
            CHECK.refused("rate(" + w + ", 0)", Check.ARGUMENT, () -> lock.rate(w, 0));
            CHECK.refused("rate(1, " + w + ")", Check.ARGUMENT, () -> lock.rate(1, w));
        }
        CHECK.refused("rate(0, 0)", Check.ARITHMETIC, () -> lock.rate(0, 0));
        CHECK.refused("rate(1000, 0)", Check.ARITHMETIC, () -> lock.rate(1000, 0));
    }

    private static void countsAreTold() {
        LockRuns lock = new LockRuns();
        lock.chamber(4, 1, 10);
        lock.chamber(4, 1, 20);
        lock.ship(4, 1, 0, 0, 2);
        lock.ship(4, 1, 0, 0, 2);
        lock.ship(4, 1, 50, 0, 2);
        lock.closed(1, 0, 3);
        lock.rule(2, 1);
        counts(lock, 2, 3, 1, 0, 2, 1, -1, -1);
        lock.plan();
        counts(lock, 2, 3, 1, 1, 2, 1, 2, 1);
        lock.closed(0, 0, 3);
        counts(lock, 2, 3, 2, 0, 2, 1, -1, -1);
        LockRuns one = new LockRuns();
        one.chamber(4, 1, 10);
        one.plan();
        counts(one, 1, 0, 0, 1, 0, 3, 0, -1);
    }

    private static void counts(LockRuns lock, int... want) {
        for (int what = 0; what < want.length; what++) {
            CHECK.due("count(" + what + ")", want[what], lock.count(what));
        }
        for (int what : new int[] {-1, 8, Integer.MIN_VALUE, Integer.MAX_VALUE}) {
            CHECK.due("count(" + what + ")", -1, lock.count(what));
        }
    }
}
