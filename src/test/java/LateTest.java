/** Promise 10: late. */
public final class LateTest {
    private static final Check CHECK = new Check("LateTest");

    public static void main(String[] args) {
        movedShipsAreCounted();
        chambersCountToo();
        theSameTimeMovesNone();
        thePlanMayBeLost();
        lateIsRefused();
        CHECK.end();
    }

    private static void movedShipsAreCounted() {
        LockRuns lock = new LockRuns();
        lock.chamber(8, 2, 10);
        lock.ship(4, 1, 0, 0, 2);
        lock.ship(4, 1, 5, 0, 2);
        lock.ship(4, 2, 3, 1, 2);
        lock.plan();
        CHECK.due("late(1, 40)", 3, lock.late(1, 40));
        CHECK.due("of(0, 2)", 0, lock.of(0, 2));
        CHECK.due("of(1, 2)", 40, lock.of(1, 2));
        CHECK.due("of(1, 5)", 0, lock.of(1, 5));
        CHECK.due("of(2, 2)", 10, lock.of(2, 2));
        CHECK.due("plan() behind it", 7, lock.plan());
        CHECK.due("late(1, 1000)", 1, lock.late(1, 1000));
        CHECK.due("late(1, 5) moves all back", 3, lock.late(1, 5));
        CHECK.due("plan() behind it", 17, lock.plan());
        CHECK.due("late(0, 5) moves none, but changes the waiting", 0, lock.late(0, 5));
        CHECK.due("of(0, 5)", 0, lock.of(0, 5));
        CHECK.due("count(3)", 1, lock.count(3));
    }

    private static void chambersCountToo() {
        LockRuns lock = new LockRuns();
        lock.chamber(4, 1, 10);
        lock.chamber(4, 1, 10);
        lock.ship(4, 1, 0, 0, 2);
        lock.ship(4, 1, 0, 0, 2);
        lock.plan();
        CHECK.due("of(1, 0)", 1, lock.of(1, 0));
        CHECK.due("late(0, 30)", 2, lock.late(0, 30));
        CHECK.due("of(1, 0) behind it", 0, lock.of(1, 0));
        CHECK.due("of(1, 2) behind it", 0, lock.of(1, 2));
    }

    private static void theSameTimeMovesNone() {
        LockRuns lock = new LockRuns();
        lock.chamber(4, 1, 10);
        lock.ship(4, 1, 7, 0, 2);
        lock.ship(4, 1, 9, 1, 2);
        lock.plan();
        String before = Check.state(lock);
        CHECK.due("late(0, 7)", 0, lock.late(0, 7));
        CHECK.due("the state behind it", before, Check.state(lock));
    }

    private static void thePlanMayBeLost() {
        // Ship 0 waits for a closed chamber; ship 1 may not overtake it, if it comes behind it.
        LockRuns lock = new LockRuns();
        lock.chamber(8, 1, 10);
        lock.chamber(1, 3, 10);
        lock.ship(8, 1, 5, 0, 2);
        lock.ship(1, 2, 0, 0, 2);
        lock.closed(0, 0, 500);
        lock.rule(0, 0);
        CHECK.due("plan()", 495, lock.plan());
        CHECK.due("late(1, 6)", -1, lock.late(1, 6));
        CHECK.due("count(3)", 0, lock.count(3));
        CHECK.refused("of(0, 0)", Check.STATE, () -> lock.of(0, 0));
        CHECK.refused("late(1, 0) without a plan", Check.STATE, () -> lock.late(1, 0));
        CHECK.due("plan(): the time is the late one", -1, lock.plan());
        lock.rule(0, 1);
        CHECK.due("plan() with overtaking", 495, lock.plan());
        CHECK.due("of(1, 2)", 6, lock.of(1, 2));
        CHECK.due("of(0, 6)", 1, lock.of(0, 6));
    }

    private static void lateIsRefused() {
        LockRuns lock = new LockRuns();
        lock.chamber(8, 1, 10);
        lock.ship(8, 1, 4, 0, 2);
        CHECK.refused("late(1, 1001) without a plan", Check.INDEX, () -> lock.late(1, 1001));
        CHECK.refused("late(0, 1001) without a plan", Check.ARGUMENT, () -> lock.late(0, 1001));
        CHECK.refused("late(0, 1000) without a plan", Check.STATE, () -> lock.late(0, 1000));
        CHECK.due("plan()", 0, lock.plan());
        CHECK.due("of(0, 2)", 4, lock.of(0, 2));
        for (int ship : new int[] {-1, 1, 4, Integer.MIN_VALUE, Integer.MAX_VALUE}) {
            CHECK.refused("late(" + ship + ", 0)", Check.INDEX, () -> lock.late(ship, 0));
            CHECK.refused("late(" + ship + ", -1)", Check.INDEX, () -> lock.late(ship, -1));
        }
        for (int time : new int[] {-1, 1001, Integer.MIN_VALUE, Integer.MAX_VALUE}) {
            CHECK.refused("late(0, " + time + ")", Check.ARGUMENT, () -> lock.late(0, time));
        }
        CHECK.due("count(3) behind refused calls", 1, lock.count(3));
        CHECK.due("of(0, 2) behind refused calls", 4, lock.of(0, 2));
        CHECK.due("late(0, 0)", 1, lock.late(0, 0));
        CHECK.due("late(0, 1000)", 1, lock.late(0, 1000));
    }
}
