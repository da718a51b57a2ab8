/** Promises 2 to 5: chamber, ship, closed, rule. */
public final class TellingTest {
    private static final Check CHECK = new Check("TellingTest");

    public static void main(String[] args) {
        chambersHaveNumbers();
        chambersAreRefused();
        shipsHaveNumbers();
        shipsAreRefused();
        spansAreTaken();
        rulesAreTaken();
        tellingMakesThePlanVoid();
        refusalChangesNothing();
        CHECK.end();
    }

    private static void chambersHaveNumbers() {
        LockRuns lock = new LockRuns();
        CHECK.due("chamber(1, 1, 1)", 0, lock.chamber(1, 1, 1));
        CHECK.due("count(0)", 1, lock.count(0));
        CHECK.due("chamber(8, 3, 60)", 1, lock.chamber(8, 3, 60));
        CHECK.due("count(0)", 2, lock.count(0));
        CHECK.refused("a third chamber", Check.STATE, () -> lock.chamber(8, 3, 60));
        CHECK.refused("a third, wrong one", Check.ARGUMENT, () -> lock.chamber(9, 3, 60));
        CHECK.due("count(0)", 2, lock.count(0));
    }

    private static void chambersAreRefused() {
        int[][] wrong = {{0, 1, 1}, {9, 1, 1}, {1, 0, 1}, {1, 4, 1}, {1, 1, 0}, {1, 1, 61},
            {-1, 1, 1}, {1, -1, 1}, {1, 1, -1}, {Integer.MIN_VALUE, 1, 1},
            {1, Integer.MAX_VALUE, 1}, {1, 1, Integer.MAX_VALUE}};
        for (int[] w : wrong) {
            LockRuns lock = new LockRuns();
            CHECK.refused("chamber(" + w[0] + ", " + w[1] + ", " + w[2] + ")", Check.ARGUMENT,
                    () -> lock.chamber(w[0], w[1], w[2]));
            CHECK.due("count(0)", 0, lock.count(0));
        }
    }

    private static void shipsHaveNumbers() {
        LockRuns lock = new LockRuns();
        int[][] right = {{1, 1, 0, 0, 0}, {8, 3, 1000, 1, 2}, {8, 1, 1, 0, 1}, {1, 3, 999, 1, 0}};
        for (int s = 0; s < right.length; s++) {
            int[] r = right[s];
            CHECK.due("ship " + s, s, lock.ship(r[0], r[1], r[2], r[3], r[4]));
            CHECK.due("count(1)", s + 1, lock.count(1));
        }
        CHECK.refused("a fifth ship", Check.STATE, () -> lock.ship(1, 1, 0, 0, 0));
        CHECK.refused("a fifth, wrong one", Check.ARGUMENT, () -> lock.ship(1, 1, 0, 0, 3));
        CHECK.due("count(1)", 4, lock.count(1));
    }

    private static void shipsAreRefused() {
        int[][] wrong = {{0, 1, 0, 0, 0}, {9, 1, 0, 0, 0}, {1, 0, 0, 0, 0}, {1, 4, 0, 0, 0},
            {1, 1, -1, 0, 0}, {1, 1, 1001, 0, 0}, {1, 1, 0, -1, 0}, {1, 1, 0, 2, 0},
            {1, 1, 0, 0, -1}, {1, 1, 0, 0, 3}, {1, 1, Integer.MIN_VALUE, 0, 0},
            {1, 1, Integer.MAX_VALUE, 0, 0}};
        for (int[] w : wrong) {
            LockRuns lock = new LockRuns();
            CHECK.refused("ship(" + w[0] + ", " + w[1] + ", " + w[2] + ", " + w[3] + ", " + w[4]
                    + ")", Check.ARGUMENT, () -> lock.ship(w[0], w[1], w[2], w[3], w[4]));
            CHECK.due("count(1)", 0, lock.count(1));
        }
    }

    private static void spansAreTaken() {
        LockRuns lock = new LockRuns();
        lock.chamber(8, 3, 10);
        int[][] wrong = {{-1, 0, 1}, {1, 0, 1}, {2, 0, 1}, {0, -1, 1}, {0, 0, 0}, {0, 5, 4},
            {0, 0, 10001}, {0, 10000, 10001}, {0, 10000, 10000}, {0, Integer.MIN_VALUE, 1},
            {0, 0, Integer.MAX_VALUE}, {Integer.MAX_VALUE, 0, 1}};
        for (int[] w : wrong) {
            CHECK.due("closed(" + w[0] + ", " + w[1] + ", " + w[2] + ")", false,
                    lock.closed(w[0], w[1], w[2]));
        }
        CHECK.due("count(2)", 0, lock.count(2));
        lock.chamber(1, 1, 1);
        for (int span = 0; span < 8; span++) {
            boolean took = span % 2 == 0 ? lock.closed(0, 0, 10000) : lock.closed(1, 9999, 10000);
            CHECK.due("span " + span, true, took);
            CHECK.due("count(2)", span + 1, lock.count(2));
        }
        CHECK.due("a ninth span", false, lock.closed(0, 0, 1));
        CHECK.due("a ninth span of chamber 1", false, lock.closed(1, 0, 1));
        CHECK.due("count(2)", 8, lock.count(2));
    }

    private static void rulesAreTaken() {
        LockRuns lock = new LockRuns();
        for (int gap = -1; gap <= 4; gap++) {
            for (int over = -1; over <= 4; over++) {
                boolean can = gap >= 0 && gap <= 3 && over >= 0 && over <= 3;
                int gapBefore = lock.count(4);
                int overBefore = lock.count(5);
                CHECK.due("rule(" + gap + ", " + over + ")", can, lock.rule(gap, over));
                CHECK.due("count(4)", can ? gap : gapBefore, lock.count(4));
                CHECK.due("count(5)", can ? over : overBefore, lock.count(5));
            }
        }
        CHECK.due("rule(min, 0)", false, lock.rule(Integer.MIN_VALUE, 0));
        CHECK.due("rule(0, max)", false, lock.rule(0, Integer.MAX_VALUE));
    }

    private static LockRuns planned() {
        LockRuns lock = new LockRuns();
        lock.chamber(8, 2, 10);
        lock.ship(4, 1, 0, 0, 2);
        lock.plan();
        return lock;
    }

    private static void tellingMakesThePlanVoid() {
        LockRuns lock = planned();
        CHECK.due("count(3) with a plan", 1, lock.count(3));
        CHECK.due("count(6) with a plan", 1, lock.count(6));
        lock.chamber(1, 1, 1);
        isVoid("chamber", lock);
        lock.ship(1, 1, 0, 0, 0);
        isVoid("ship", lock);
        lock.closed(0, 0, 1);
        isVoid("closed", lock);
        lock.rule(0, 3);
        isVoid("a rule that was there", lock);
    }

    private static void isVoid(String by, LockRuns lock) {
        CHECK.due("count(3) behind " + by, 0, lock.count(3));
        CHECK.due("count(6) behind " + by, -1, lock.count(6));
        CHECK.refused("of(0, 0) behind " + by, Check.STATE, () -> lock.of(0, 0));
        CHECK.refused("run(0, 0, 0) behind " + by, Check.STATE, () -> lock.run(0, 0, 0));
        CHECK.refused("late(0, 0) behind " + by, Check.STATE, () -> lock.late(0, 0));
        CHECK.due("plan() behind " + by, true, lock.plan() >= 0);
    }

    private static void refusalChangesNothing() {
        LockRuns lock = planned();
        lock.chamber(5, 3, 7);
        lock.ship(4, 1, 3, 1, 0);
        lock.ship(2, 3, 5, 0, 1);
        lock.ship(1, 1, 7, 1, 2);
        for (int span = 0; span < 8; span++) {
            lock.closed(span % 2, 20 * span, 20 * span + 3);
        }
        lock.plan();
        String before = Check.state(lock);
        CHECK.refused("chamber", Check.STATE, () -> lock.chamber(8, 3, 10));
        CHECK.refused("chamber", Check.ARGUMENT, () -> lock.chamber(8, 3, 0));
        CHECK.refused("ship", Check.STATE, () -> lock.ship(1, 1, 0, 0, 0));
        CHECK.refused("ship", Check.ARGUMENT, () -> lock.ship(1, 1, 0, 0, 9));
        CHECK.due("closed", false, lock.closed(0, 0, 9));
        CHECK.due("closed", false, lock.closed(0, 9, 9));
        CHECK.due("rule", false, lock.rule(4, 0));
        CHECK.due("rule", false, lock.rule(0, 4));
        CHECK.refused("fits", Check.ARGUMENT, () -> lock.fits(2, 1) ? 1 : 0);
        CHECK.refused("of", Check.INDEX, () -> lock.of(4, 0));
        CHECK.refused("run", Check.INDEX, () -> lock.run(2, 0, 0));
        CHECK.refused("late", Check.INDEX, () -> lock.late(4, 0));
        CHECK.refused("late", Check.ARGUMENT, () -> lock.late(0, 1001));
        CHECK.refused("home", Check.INDEX, () -> lock.home(4));
        CHECK.refused("rate", Check.ARITHMETIC, () -> lock.rate(1, 0));
        CHECK.due("the state behind refused calls", before, Check.state(lock));
    }
}
