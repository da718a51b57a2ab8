/** Promises 6, 8 and 9: plan, of, run. */
public final class PlanTest {
    private static final Check CHECK = new Check("PlanTest");

    public static void main(String[] args) {
        nothingIsAPlanToo();
        thereMayBeNoPlan();
        shipsShareARun();
        levelsTakeFillTimes();
        closedSpansAreKeptClear();
        overtakingIsBounded();
        overtakingIsToldOfTheSameTime();
        tiesGoToTheFirst();
        ofIsRefused();
        runIsRefused();
        CHECK.end();
    }

    private static LockRuns lock(int length, int width, int fill) {
        LockRuns lock = new LockRuns();
        lock.chamber(length, width, fill);
        return lock;
    }

    /** Chamber, run, beginning, waiting and times overtaken of a ship. */
    private static void shipIs(LockRuns lock, int ship, int... want) {
        int[] whats = {0, 1, 2, 5, 6};
        for (int at = 0; at < want.length; at++) {
            CHECK.due("of(" + ship + ", " + whats[at] + ")", want[at], lock.of(ship, whats[at]));
        }
    }

    /** Beginning, direction and ships of a run. */
    private static void runIs(LockRuns lock, int chamber, int k, int... want) {
        for (int what = 0; what < want.length; what++) {
            CHECK.due("run(" + chamber + ", " + k + ", " + what + ")", want[what],
                    lock.run(chamber, k, what));
        }
    }

    private static void nothingIsAPlanToo() {
        LockRuns lock = lock(8, 3, 10);
        CHECK.due("plan() without ships", 0, lock.plan());
        CHECK.due("count(3)", 1, lock.count(3));
        CHECK.due("count(6)", 0, lock.count(6));
        CHECK.due("count(7)", -1, lock.count(7));
        CHECK.due("run(0, 0, 0)", -1, lock.run(0, 0, 0));
    }

    private static void thereMayBeNoPlan() {
        LockRuns lock = new LockRuns();
        lock.ship(3, 1, 0, 0, 2);
        CHECK.due("plan() without chambers", -1, lock.plan());
        lock.chamber(2, 3, 10);
        CHECK.due("plan() with too small a chamber", -1, lock.plan());
        CHECK.due("count(3)", 0, lock.count(3));
        CHECK.due("count(6)", -1, lock.count(6));
        CHECK.refused("of(0, 0)", Check.STATE, () -> lock.of(0, 0));
        CHECK.refused("run(0, 0, 0)", Check.STATE, () -> lock.run(0, 0, 0));
        CHECK.refused("late(0, 0)", Check.STATE, () -> lock.late(0, 0));
        lock.chamber(3, 1, 10);
        CHECK.due("plan() with a chamber that is large enough", 0, lock.plan());
        shipIs(lock, 0, 1, 0, 0, 0, 0);
    }

    private static void shipsShareARun() {
        LockRuns lock = lock(8, 2, 10);
        lock.ship(4, 1, 0, 0, 2);
        lock.ship(4, 1, 5, 0, 2);
        lock.ship(4, 2, 3, 1, 2);
        CHECK.due("plan()", 17, lock.plan());
        CHECK.due("plan() again", 17, lock.plan());
        shipIs(lock, 0, 0, 0, 5, 5, 0);
        shipIs(lock, 1, 0, 0, 5, 0, 0);
        shipIs(lock, 2, 0, 1, 15, 12, 0);
        runIs(lock, 0, 0, 5, 0, 3);
        runIs(lock, 0, 1, 15, 1, 4);
        runIs(lock, 0, 2, -1, -1, -1);
        runIs(lock, 0, -1, -1, -1, -1);
        CHECK.due("count(6)", 2, lock.count(6));
    }

    private static void levelsTakeFillTimes() {
        LockRuns down = lock(8, 1, 10);
        down.ship(8, 1, 4, 1, 2);
        CHECK.due("plan() of a ship that comes down at first", 6, down.plan());
        LockRuns away = lock(8, 1, 10);
        away.ship(8, 1, 500, 1, 2);
        CHECK.due("plan() of one that comes down later", 0, away.plan());
        LockRuns twice = lock(8, 1, 10);
        twice.ship(8, 1, 0, 0, 2);
        twice.ship(8, 1, 0, 0, 2);
        CHECK.due("plan() of two that go up", 20, twice.plan());
        shipIs(twice, 0, 0, 0, 0, 0, 0);
        shipIs(twice, 1, 0, 1, 20, 20, 0);
        LockRuns both = lock(8, 1, 10);
        both.ship(8, 1, 0, 0, 2);
        both.ship(8, 1, 0, 1, 2);
        CHECK.due("plan() of one up and one down", 10, both.plan());
        shipIs(both, 1, 0, 1, 10, 10, 0);
        LockRuns back = lock(8, 1, 10);
        back.ship(8, 1, 0, 1, 2);
        back.ship(8, 1, 15, 0, 2);
        CHECK.due("plan() of one down and then one up", 15, back.plan());
        shipIs(back, 0, 0, 0, 10, 10, 0);
        shipIs(back, 1, 0, 1, 20, 5, 0);
    }

    private static void closedSpansAreKeptClear() {
        // The last time of a run may be the one ahead of a span, and the first one its end.
        begins("a span behind the run", 0, 10, 20);
        begins("a span that a run would reach", 20, 9, 20);
        begins("a span that ends ahead", 5, 0, 5);
        begins("a span of one time", 1, 0, 1);
        begins("two spans with too little between", 28, 5, 15, 24, 28);
        begins("the same, told the other way round", 28, 24, 28, 5, 15);
        begins("two spans with just enough between", 15, 5, 15, 25, 28);
        begins("spans in one another", 30, 0, 30, 5, 6, 29, 30);
        begins("eight spans, the last first", 80, 70, 80, 60, 70, 50, 60, 40, 50, 30, 40, 20, 30,
                10, 20, 0, 10);
        begins("the longest span", 10000, 0, 10000);
        LockRuns empty = lock(8, 1, 10);
        empty.ship(8, 1, 0, 1, 2);
        empty.closed(0, 0, 10);
        CHECK.due("a chamber comes back empty through a span", 10, empty.plan());
        LockRuns other = lock(8, 1, 10);
        other.chamber(8, 1, 10);
        other.ship(8, 1, 0, 0, 2);
        other.closed(0, 0, 50);
        CHECK.due("the other chamber is open", 0, other.plan());
        shipIs(other, 0, 1, 0, 0);
        CHECK.due("count(6)", 0, other.count(6));
        CHECK.due("count(7)", 1, other.count(7));
    }

    /** When a ship's run begins, with fill 10 and these spans. */
    private static void begins(String why, int want, int... spans) {
        LockRuns lock = lock(8, 1, 10);
        lock.ship(8, 1, 0, 0, 2);
        for (int at = 0; at < spans.length; at += 2) {
            lock.closed(0, spans[at], spans[at + 1]);
        }
        CHECK.due(why + ": plan()", want, lock.plan());
        CHECK.due(why + ": of(0, 2)", want, lock.of(0, 2));
    }

    private static void overtakingIsBounded() {
        // Ship 0 has but the closed chamber, the others have the open one.
        for (int later = 1; later <= 3; later++) {
            LockRuns lock = lock(8, 3, 10);
            lock.chamber(1, 3, 10);
            lock.ship(8, 1, 0, 0, 2);
            for (int ship = 1; ship <= later; ship++) {
                lock.ship(1, 3, ship, 0, 2);
            }
            lock.closed(0, 0, 500);
            CHECK.due("plan() with OVER 3", true, lock.plan() > 0);
            int free = lock.of(0, 6);
            CHECK.due("times overtaken with OVER 3", later, free);
            for (int over = 0; over <= 3; over++) {
                lock.rule(0, over);
                boolean found = lock.plan() >= 0;
                CHECK.due("a plan with OVER " + over, true, found);
                CHECK.due("times overtaken with OVER " + over, Math.min(over, later),
                        found ? lock.of(0, 6) : -1);
            }
        }
        LockRuns never = lock(8, 1, 10);
        never.chamber(1, 1, 10);
        never.ship(8, 1, 0, 0, 2);
        never.ship(1, 1, 1, 0, 2);
        never.closed(0, 0, 500);
        never.closed(1, 400, 10000);
        never.rule(0, 0);
        CHECK.due("plan() that keeps the order", 1019, never.plan());
        never.closed(0, 500, 10000);
        never.closed(1, 0, 10000);
        CHECK.due("plan() that keeps the order, later", 19999, never.plan());
        LockRuns none = lock(8, 1, 10);
        none.chamber(1, 3, 10);
        none.ship(8, 1, 0, 0, 2);
        none.ship(1, 2, 1, 0, 2);
        none.closed(0, 0, 500);
        none.rule(0, 0);
        CHECK.due("no plan without overtaking", -1, none.plan());
        none.rule(0, 1);
        CHECK.due("a plan with it", 500, none.plan());
        shipIs(none, 0, 0, 0, 500, 500, 1);
        shipIs(none, 1, 1, 0, 1, 0, 0);
    }

    private static void overtakingIsToldOfTheSameTime() {
        // Of two that arrive at once the one with the greater number overtakes.
        LockRuns lock = lock(8, 1, 10);
        lock.chamber(1, 3, 10);
        lock.ship(8, 1, 0, 0, 2);
        lock.ship(1, 2, 0, 0, 2);
        lock.ship(1, 2, 0, 1, 2);
        lock.closed(0, 0, 500);
        lock.plan();
        CHECK.due("times that ship 0 is overtaken", 1, lock.of(0, 6));
        CHECK.due("times that ship 1 is overtaken", 0, lock.of(1, 6));
        LockRuns lesser = lock(8, 1, 10);
        lesser.chamber(1, 3, 10);
        lesser.ship(1, 2, 9, 0, 2);
        lesser.ship(8, 1, 5, 0, 2);
        lesser.closed(0, 0, 500);
        lesser.plan();
        CHECK.due("times that ship 1 is overtaken by ship 0", 1, lesser.of(1, 6));
        CHECK.due("times that ship 0 is overtaken", 0, lesser.of(0, 6));
        LockRuns turned = lock(8, 1, 10);
        turned.chamber(1, 3, 10);
        turned.ship(1, 2, 0, 0, 2);
        turned.ship(8, 1, 0, 0, 2);
        turned.closed(0, 0, 500);
        turned.rule(0, 0);
        CHECK.due("plan() of the lesser number ahead", 500, turned.plan());
        CHECK.due("times that ship 1 is overtaken", 0, turned.of(1, 6));
        LockRuns together = lock(8, 2, 10);
        together.ship(8, 1, 5, 0, 2);
        together.ship(8, 1, 5, 0, 2);
        together.rule(0, 0);
        CHECK.due("plan() of one run", 0, together.plan());
        CHECK.due("none is overtaken in one run", 0, together.of(0, 6));
    }

    private static void tiesGoToTheFirst() {
        LockRuns chambers = lock(4, 1, 10);
        chambers.chamber(4, 1, 10);
        chambers.ship(4, 1, 0, 0, 2);
        chambers.ship(4, 1, 0, 0, 2);
        CHECK.due("plan() of two like chambers", 0, chambers.plan());
        shipIs(chambers, 0, 0, 0, 0);
        shipIs(chambers, 1, 1, 0, 0);
        LockRuns begins = lock(4, 1, 10);
        begins.ship(4, 1, 0, 0, 2);
        begins.ship(4, 1, 0, 0, 2);
        begins.ship(4, 1, 0, 0, 2);
        CHECK.due("plan() of three like ships", 60, begins.plan());
        shipIs(begins, 0, 0, 0, 0);
        shipIs(begins, 1, 0, 1, 20);
        shipIs(begins, 2, 0, 2, 40);
        // Ship 1 comes ahead of ship 0: the same waiting, but ship 0 would begin later.
        LockRuns order = lock(4, 1, 10);
        order.ship(4, 1, 3, 0, 2);
        order.ship(4, 1, 3, 0, 2);
        order.plan();
        shipIs(order, 0, 0, 0, 3);
        // The lesser beginning counts ahead of the lesser chamber.
        LockRuns sooner = lock(4, 1, 10);
        sooner.chamber(4, 1, 10);
        sooner.ship(4, 1, 0, 0, 2);
        sooner.ship(4, 1, 0, 0, 2);
        sooner.closed(0, 0, 5);
        CHECK.due("plan() with a closed chamber", 5, sooner.plan());
        shipIs(sooner, 0, 1, 0, 0);
        shipIs(sooner, 1, 0, 0, 5);
    }

    private static void ofIsRefused() {
        LockRuns lock = lock(8, 1, 10);
        lock.ship(8, 1, 0, 0, 2);
        CHECK.refused("of(1, 0) without a plan", Check.INDEX, () -> lock.of(1, 0));
        CHECK.refused("of(0, 7) without a plan", Check.INDEX, () -> lock.of(0, 7));
        CHECK.refused("of(0, 0) without a plan", Check.STATE, () -> lock.of(0, 0));
        lock.plan();
        for (int ship : new int[] {-1, 1, 4, Integer.MIN_VALUE, Integer.MAX_VALUE}) {
            CHECK.refused("of(" + ship + ", 0)", Check.INDEX, () -> lock.of(ship, 0));
        }
        for (int what : new int[] {-1, 7, Integer.MIN_VALUE, Integer.MAX_VALUE}) {
            CHECK.refused("of(0, " + what + ")", Check.INDEX, () -> lock.of(0, what));
        }
    }

    private static void runIsRefused() {
        LockRuns lock = lock(8, 1, 10);
        lock.ship(8, 1, 0, 1, 2);
        CHECK.refused("run(1, 0, 0) without a plan", Check.INDEX, () -> lock.run(1, 0, 0));
        CHECK.refused("run(0, 0, 3) without a plan", Check.INDEX, () -> lock.run(0, 0, 3));
        CHECK.refused("run(0, 9, 0) without a plan", Check.STATE, () -> lock.run(0, 9, 0));
        lock.plan();
        for (int chamber : new int[] {-1, 1, 2, Integer.MIN_VALUE, Integer.MAX_VALUE}) {
            CHECK.refused("run(" + chamber + ", 0, 0)", Check.INDEX,
                    () -> lock.run(chamber, 0, 0));
        }
        for (int what : new int[] {-1, 3, Integer.MIN_VALUE, Integer.MAX_VALUE}) {
            CHECK.refused("run(0, 0, " + what + ")", Check.INDEX, () -> lock.run(0, 0, what));
        }
        for (int k : new int[] {-1, 1, 4, Integer.MIN_VALUE, Integer.MAX_VALUE}) {
            CHECK.due("run(0, " + k + ", 0)", -1, lock.run(0, k, 0));
        }
        runIs(lock, 0, 0, 10, 1, 1);
    }
}
