/** The edges that the document names for a late ship: promise 10. */
public final class LateEdgeTest {
    private static final Check CHECK = new Check("LateEdgeTest");

    public static void main(String[] args) {
        aShipArrivesAtAnotherTime();
        thePlanIsMadeAnew();
        beginningsThatDifferCount();
        chambersThatDifferCount();
        otherChangesDoNotCount();
        noneToFourAreCounted();
        theLastPlanIsComparedWith();
        thereMayBeNoneNow();
        lateNeedsAShip();
        lateNeedsATimeThatCanBe();
        lateNeedsAPlan();
        CHECK.end();
    }

    private static void aShipArrivesAtAnotherTime() {
        CHECK.sentence("A ship ARRIVES at another time");
        LockRuns lock = Locks.narrow(10);
        Locks.longShip(lock, 5, Locks.UP);
        lock.plan();
        for (int arrives : new int[] {0, 1, 999, 1000, 4, 0}) {
            CHECK.due("late(0, " + arrives + ")", 1, lock.late(0, arrives));
            CHECK.due("of(0, 2)", arrives, lock.of(0, 2));
            CHECK.due("of(0, 5)", 0, lock.of(0, 5));
            CHECK.due("late(0, " + arrives + ") again", 0, lock.late(0, arrives));
        }
        lock.rule(0, 3);
        CHECK.due("plan() keeps the last time", 0, lock.plan());
        CHECK.due("of(0, 2)", 0, lock.of(0, 2));
    }

    private static void thePlanIsMadeAnew() {
        CHECK.sentence("and the plan is made anew");
        LockRuns lock = Locks.one(8, 2, 10);
        lock.ship(8, 1, 0, Locks.UP, 2);
        lock.ship(8, 1, 0, Locks.UP, 2);
        lock.plan();
        CHECK.due("run(0, 0, 2)", 3, lock.run(0, 0, 2));
        CHECK.due("late(1, 10)", 1, lock.late(1, 10));
        CHECK.due("count(3)", 1, lock.count(3));
        CHECK.due("count(6)", 2, lock.count(6));
        CHECK.due("run(0, 0, 2)", 1, lock.run(0, 0, 2));
        CHECK.due("run(0, 1, 0)", 20, lock.run(0, 1, 0));
        CHECK.due("of(1, 4): alone it is laid at y 0", 0, lock.of(1, 4));
        CHECK.due("late(1, 9)", 2, lock.late(1, 9));
        CHECK.due("count(6)", 1, lock.count(6));
        CHECK.due("plan()", 9, lock.plan());
        // By a new time the other ship is the one that is overtaken.
        LockRuns over = Locks.one(8, 1, 10);
        over.chamber(1, 3, 10);
        over.closed(0, 0, 500);
        Locks.longShip(over, 5, Locks.UP);
        over.ship(1, 3, 4, Locks.UP, 2);
        over.plan();
        CHECK.due("of(0, 6)", 0, over.of(0, 6));
        CHECK.due("late(1, 5)", 1, over.late(1, 5));
        CHECK.due("of(0, 6)", 1, over.of(0, 6));
    }

    private static void beginningsThatDifferCount() {
        CHECK.sentence("of how many ships the chamber or the beginning is another one (beginning)");
        LockRuns lock = Locks.narrow(10);
        Locks.longShip(lock, 0, Locks.UP);
        Locks.longShip(lock, 10, Locks.DOWN);
        lock.plan();
        CHECK.due("late(0, 1)", 2, lock.late(0, 1));
        CHECK.due("late(1, 11)", 0, lock.late(1, 11));
        CHECK.due("late(1, 12)", 1, lock.late(1, 12));
        CHECK.due("late(0, 2)", 1, lock.late(0, 2));
        CHECK.due("late(0, 3)", 2, lock.late(0, 3));
    }

    private static void chambersThatDifferCount() {
        CHECK.sentence("of how many ships the chamber or the beginning is another one (chamber)");
        LockRuns lock = Locks.two(8, 1, 10);
        Locks.longShip(lock, 0, Locks.UP);
        Locks.longShip(lock, 5, Locks.UP);
        lock.plan();
        CHECK.due("of(1, 0)", 1, lock.of(1, 0));
        CHECK.due("late(0, 100): ship 1 begins at 5 as it did", 2, lock.late(0, 100));
        CHECK.due("of(1, 0)", 0, lock.of(1, 0));
        CHECK.due("of(1, 2)", 5, lock.of(1, 2));
        CHECK.due("late(0, 0)", 2, lock.late(0, 0));
        CHECK.due("of(1, 0)", 1, lock.of(1, 0));
        CHECK.due("of(1, 2)", 5, lock.of(1, 2));
    }

    private static void otherChangesDoNotCount() {
        CHECK.sentence("the chamber or the beginning");
        // Ship 1's run is the second one, then the first: neither chamber nor beginning differ.
        LockRuns lock = Locks.narrow(10);
        Locks.longShip(lock, 0, Locks.UP);
        Locks.longShip(lock, 500, Locks.UP);
        lock.plan();
        CHECK.due("of(1, 1)", 1, lock.of(1, 1));
        CHECK.due("late(0, 1000)", 1, lock.late(0, 1000));
        CHECK.due("of(1, 1)", 0, lock.of(1, 1));
        CHECK.due("of(1, 2)", 500, lock.of(1, 2));
        // Ship 1 is laid at another place.
        LockRuns laid = Locks.one(8, 2, 10);
        laid.ship(8, 1, 0, Locks.UP, 2);
        laid.ship(8, 1, 0, Locks.UP, 2);
        laid.plan();
        CHECK.due("of(1, 4)", 1, laid.of(1, 4));
        CHECK.due("late(0, 11)", 1, laid.late(0, 11));
        CHECK.due("of(1, 4)", 0, laid.of(1, 4));
        // Ship 0 waits for less.
        LockRuns waiting = Locks.narrow(10);
        Locks.longShip(waiting, 0, Locks.DOWN);
        waiting.plan();
        CHECK.due("of(0, 5)", 10, waiting.of(0, 5));
        CHECK.due("late(0, 10)", 0, waiting.late(0, 10));
        CHECK.due("of(0, 5)", 0, waiting.of(0, 5));
    }

    private static void noneToFourAreCounted() {
        CHECK.sentence("of how many ships");
        for (int ships = 1; ships <= 4; ships++) {
            LockRuns lock = Locks.narrow(10);
            for (int ship = 0; ship < ships; ship++) {
                Locks.longShip(lock, 10 * ship, ship % 2);
            }
            lock.plan();
            CHECK.due("late(0, 0) of " + ships, 0, lock.late(0, 0));
            for (int ship = 0; ship < ships; ship++) {
                CHECK.due("late(" + ship + ", one later) of " + ships, ships - ship,
                        lock.late(ship, 10 * ship + 1));
                CHECK.due("late(" + ship + ", as it was) of " + ships, ships - ship,
                        lock.late(ship, 10 * ship));
            }
        }
    }

    private static void theLastPlanIsComparedWith() {
        CHECK.sentence("is another one");
        LockRuns lock = Locks.narrow(10);
        Locks.longShip(lock, 0, Locks.UP);
        Locks.longShip(lock, 600, Locks.UP);
        lock.plan();
        CHECK.due("late(0, 100)", 1, lock.late(0, 100));
        CHECK.due("late(1, 700)", 1, lock.late(1, 700));
        CHECK.due("late(1, 700) again", 0, lock.late(1, 700));
        CHECK.due("plan()", 0, lock.plan());
        CHECK.due("late(0, 0)", 1, lock.late(0, 0));
        lock.closed(0, 0, 50);
        lock.plan();
        CHECK.due("late(0, 50), when it begins anyway", 0, lock.late(0, 50));
        CHECK.due("late(0, 51)", 1, lock.late(0, 51));
    }

    private static void thereMayBeNoneNow() {
        CHECK.sentence("NONE if there is none now.");
        LockRuns lock = Locks.one(8, 1, 10);
        lock.chamber(1, 3, 10);
        lock.closed(0, 0, 500);
        lock.rule(0, 0);
        Locks.longShip(lock, 5, Locks.UP);
        lock.ship(1, 3, 4, Locks.UP, 2);
        CHECK.due("plan()", 495, lock.plan());
        CHECK.due("late(1, 5): it would overtake", -1, lock.late(1, 5));
        CHECK.due("count(3)", 0, lock.count(3));
        CHECK.due("count(6)", -1, lock.count(6));
        CHECK.refused("of(0, 0)", Check.STATE, () -> lock.of(0, 0));
        CHECK.refused("run(0, 0, 0)", Check.STATE, () -> lock.run(0, 0, 0));
        CHECK.refused("late(1, 4)", Check.STATE, () -> lock.late(1, 4));
        CHECK.due("plan() with the new time", -1, lock.plan());
        lock.rule(0, 1);
        CHECK.due("plan() with OVER 1", 495, lock.plan());
        CHECK.due("of(1, 2): the time stayed", 5, lock.of(1, 2));
    }

    private static void lateNeedsAShip() {
        CHECK.sentence("late: IndexOutOfBoundsException if there is no such ship");
        LockRuns lock = Locks.one(8, 3, 10);
        for (int ships = 0; ships <= 4; ships++) {
            lock.plan();
            for (int ship : new int[] {-1, ships, 4, 5, Integer.MIN_VALUE, Integer.MAX_VALUE}) {
                for (int arrives : new int[] {0, 1000, -1, 1001}) {
                    CHECK.refused("late(" + ship + ", " + arrives + ") of " + ships, Check.INDEX,
                            () -> lock.late(ship, arrives));
                }
            }
            CHECK.due("count(3) behind it", 1, lock.count(3));
            for (int ship = 0; ship < ships; ship++) {
                CHECK.due("late(" + ship + ", 0)", 0, lock.late(ship, 0));
            }
            if (ships < 4) {
                lock.ship(1, 1, 0, 0, 2);
            }
        }
    }

    private static void lateNeedsATimeThatCanBe() {
        CHECK.sentence("IllegalArgumentException if the time can't be");
        for (int arrives : Locks.outside(0, 1000)) {
            LockRuns lock = Locks.narrow(10);
            Locks.longShip(lock, 7, Locks.UP);
            lock.plan();
            String before = Check.state(lock);
            CHECK.refused("late(0, " + arrives + ")", Check.ARGUMENT,
                    () -> lock.late(0, arrives));
            CHECK.due("the state behind it", before, Check.state(lock));
            CHECK.due("plan() behind it", 0, lock.plan());
            CHECK.due("of(0, 2) behind it", 7, lock.of(0, 2));
        }
    }

    private static void lateNeedsAPlan() {
        CHECK.sentence("late: IllegalStateException without a plan.");
        LockRuns lock = Locks.narrow(10);
        Locks.longShip(lock, 7, Locks.UP);
        for (int arrives : new int[] {0, 7, 1000}) {
            CHECK.refused("late(0, " + arrives + ")", Check.STATE, () -> lock.late(0, arrives));
        }
        lock.plan();
        CHECK.due("of(0, 2): it arrives when it did", 7, lock.of(0, 2));
        Locks.longShip(lock, 30, Locks.UP);
        CHECK.refused("late(0, 8) with a plan that is void", Check.STATE, () -> lock.late(0, 8));
        lock.plan();
        CHECK.due("of(0, 2): it still does", 7, lock.of(0, 2));
    }
}
