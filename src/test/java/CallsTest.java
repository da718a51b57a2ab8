/** An object answers all of its 512 calls, the last one as well as the first. */
public final class CallsTest {
    private static final Check CHECK = new Check("CallsTest");
    private static final int MOST_CALLS = 512;
    private static final int CALLS_OF_FULL = 2 + 4 + 8 + 1 + 1;

    public static void main(String[] args) {
        lateIsAnsweredToTheLast();
        plansAreMadeToTheLast();
        refusalsDoNotWearOut();
        CHECK.end();
    }

    /** A full object with its plan made: 2 chambers, 4 ships, 8 spans, a rule. */
    private static LockRuns full(int[] arrivals, int gap, int over) {
        LockRuns lock = new LockRuns();
        lock.chamber(8, 3, 10);
        lock.chamber(5, 2, 25);
        for (int ship = 0; ship < 4; ship++) {
            lock.ship(2 + ship, 1 + ship % 2, arrivals[ship], ship / 2 % 2, 2);
        }
        for (int span = 0; span < 8; span++) {
            lock.closed(span % 2, 30 * span, 30 * span + 12);
        }
        lock.rule(gap, over);
        lock.plan();
        return lock;
    }

    private static void lateIsAnsweredToTheLast() {
        CHECK.sentence("An object is used for at most 512 calls after it has been made (late)");
        int[] arrivals = {0, 5, 9, 40};
        LockRuns lock = full(arrivals, 1, 3);
        int calls = CALLS_OF_FULL;
        for (int step = 0; calls + 8 <= MOST_CALLS; step++) {
            LockRuns before = full(arrivals, 1, 3);
            int ship = step % 4;
            arrivals[ship] = step * 37 % 250;
            LockRuns fresh = full(arrivals, 1, 3);
            int moved = 0;
            for (int each = 0; each < 4; each++) {
                boolean same = before.of(each, 0) == fresh.of(each, 0)
                        && before.of(each, 2) == fresh.of(each, 2);
                moved += same ? 0 : 1;
            }
            CHECK.due("late as call " + (calls + 1), moved, lock.late(ship, arrivals[ship]));
            for (int what = 0; what <= 6; what++) {
                CHECK.due("of(" + ship + ", " + what + ") as call " + (calls + 2 + what),
                        fresh.of(ship, what), lock.of(ship, what));
            }
            calls += 8;
        }
        CHECK.due("calls", MOST_CALLS, calls);
    }

    private static void plansAreMadeToTheLast() {
        CHECK.sentence("An object is used for at most 512 calls after it has been made (plan)");
        int[] arrivals = {3, 3, 20, 20};
        LockRuns lock = full(arrivals, 0, 3);
        int calls = CALLS_OF_FULL;
        for (int step = 0; calls + 4 <= MOST_CALLS; step++) {
            int gap = step % 4;
            int over = step / 4 % 4;
            LockRuns fresh = full(arrivals, gap, over);
            CHECK.due("rule as call " + (calls + 1), true, lock.rule(gap, over));
            CHECK.due("plan() as call " + (calls + 2), fresh.plan(), lock.plan());
            CHECK.due("fits(0, 15) as call " + (calls + 3), fresh.fits(0, 15), lock.fits(0, 15));
            CHECK.due("count(6) as call " + (calls + 4), fresh.count(6), lock.count(6));
            calls += 4;
        }
        CHECK.due("calls", MOST_CALLS, calls);
    }

    private static void refusalsDoNotWearOut() {
        CHECK.sentence("An object is used for at most 512 calls after it has been made (refused)");
        LockRuns lock = full(new int[] {0, 0, 0, 0}, 0, 3);
        int calls = CALLS_OF_FULL;
        for (; calls + 4 <= MOST_CALLS - 100; calls += 4) {
            CHECK.refused("a third chamber", Check.STATE, () -> lock.chamber(1, 1, 1));
            CHECK.refused("a fifth ship", Check.STATE, () -> lock.ship(1, 1, 0, 0, 0));
            CHECK.due("a ninth span", false, lock.closed(0, 0, 1));
            CHECK.refused("rate(1, 0)", Check.ARITHMETIC, () -> lock.rate(1, 0));
        }
        String fresh = Check.state(full(new int[] {0, 0, 0, 0}, 0, 3));
        CHECK.due("the state behind " + calls + " calls", fresh, Check.state(lock));
    }
}
