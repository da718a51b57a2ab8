/** The edges that the document names for runs and when they begin: Terms, promises 6, 8, 9. */
public final class RunEdgeTest {
    private static final Check CHECK = new Check("RunEdgeTest");
    private static final int[] FILLS = {1, 2, 10, 59, 60};

    public static void main(String[] args) {
        aPlanOfNothingIsAPlan();
        thereMayBeNoPlan();
        runsAreNumberedWithoutAGap();
        oneRunHasOneDirection();
        shipsOfOneRunFit();
        aRunWaitsForItsLastShip();
        aRunWaitsForTheChamber();
        atTheOtherLevelItComesBackFirst();
        atFirstItComesBackForADownShip();
        aRunEndsAheadOfASpan();
        aRunBeginsAtASpansEnd();
        spansAreGoneThroughToTheLast();
        emptyRunsMayPassSpans();
        theChamberIsFreeFillLater();
        ofNeedsAShipAndAWhat();
        ofNeedsAPlan();
        runNeedsAChamberAndAWhat();
        runNeedsAPlan();
        aRunThatIsNotThereIsNone();
        CHECK.end();
    }

    private static void aPlanOfNothingIsAPlan() {
        CHECK.sentence("THE PLAN is made: its waiting");
        LockRuns lock = new LockRuns();
        for (int chambers = 0; chambers <= 2; chambers++) {
            CHECK.due("plan() without ships", 0, lock.plan());
            CHECK.due("count(3)", 1, lock.count(3));
            CHECK.due("count(6)", chambers > 0 ? 0 : -1, lock.count(6));
            CHECK.due("count(7)", chambers > 1 ? 0 : -1, lock.count(7));
            if (chambers < 2) {
                lock.chamber(8, 3, 10);
                CHECK.due("count(3) behind chamber", 0, lock.count(3));
            }
        }
    }

    private static void thereMayBeNoPlan() {
        CHECK.sentence("NONE if there is none.");
        LockRuns lock = new LockRuns();
        lock.ship(4, 2, 0, 0, 2);
        CHECK.due("plan() without a chamber", -1, lock.plan());
        CHECK.due("count(3)", 0, lock.count(3));
        lock.chamber(3, 2, 10);
        CHECK.due("plan() with too short a chamber", -1, lock.plan());
        lock.chamber(4, 1, 10);
        CHECK.due("plan() with too narrow a one beside it", -1, lock.plan());
        CHECK.due("count(3)", 0, lock.count(3));
        CHECK.due("count(6)", -1, lock.count(6));
        CHECK.due("count(7)", -1, lock.count(7));
        LockRuns last = Locks.one(4, 2, 10);
        last.ship(4, 2, 0, 0, 2);
        last.ship(4, 2, 0, 0, 2);
        last.ship(4, 2, 0, 0, 2);
        CHECK.due("plan() of three that fit alone", 60, last.plan());
        last.ship(5, 2, 0, 0, 2);
        CHECK.due("plan() with a fourth that does not", -1, last.plan());
        CHECK.due("count(3)", 0, last.count(3));
    }

    private static void runsAreNumberedWithoutAGap() {
        CHECK.sentence("the first, second, .. of it, none left out");
        for (int ships = 0; ships <= 4; ships++) {
            LockRuns lock = Locks.narrow(10);
            for (int ship = 0; ship < ships; ship++) {
                Locks.longShip(lock, 500 - 20 * ship, Locks.UP);
            }
            CHECK.due("plan() of " + ships, 0, lock.plan());
            CHECK.due("count(6)", ships, lock.count(6));
            for (int ship = 0; ship < ships; ship++) {
                CHECK.due("of(" + ship + ", 1)", ships - 1 - ship, lock.of(ship, 1));
                CHECK.due("run(0, " + ship + ", 2)", 1 << ships - 1 - ship,
                        lock.run(0, ship, 2));
            }
            CHECK.due("run(0, " + ships + ", 0)", -1, lock.run(0, ships, 0));
        }
    }

    private static void oneRunHasOneDirection() {
        CHECK.sentence("Ships of one run have one direction");
        LockRuns lock = Locks.one(8, 2, 10);
        lock.ship(8, 1, 0, Locks.UP, 2);
        lock.ship(8, 1, 0, Locks.DOWN, 2);
        CHECK.due("fits(0, 3)", true, lock.fits(0, 3));
        CHECK.due("plan() of two directions", 10, lock.plan());
        CHECK.due("count(6)", 2, lock.count(6));
        LockRuns same = Locks.one(8, 2, 10);
        same.ship(8, 1, 0, Locks.DOWN, 2);
        same.ship(8, 1, 0, Locks.DOWN, 2);
        CHECK.due("plan() of one direction", 20, same.plan());
        CHECK.due("count(6)", 1, same.count(6));
        LockRuns later = Locks.one(8, 2, 10);
        later.ship(8, 1, 100, Locks.UP, 2);
        later.ship(8, 1, 100, Locks.DOWN, 2);
        CHECK.due("plan() of two directions with time to come back", 10, later.plan());
        CHECK.due("run(0, 0, 2)", 1, later.run(0, 0, 2));
        CHECK.due("run(0, 1, 2)", 2, later.run(0, 1, 2));
    }

    private static void shipsOfOneRunFit() {
        CHECK.sentence("Ships of one run .. FIT.");
        for (int length = 1; length <= 8; length++) {
            LockRuns lock = Locks.one(8, 1, 10);
            lock.ship(4, 1, 0, 0, 2);
            lock.ship(length, 1, 0, 0, 2);
            CHECK.due("plan() of 4 and " + length, length <= 4 ? 0 : 20, lock.plan());
            CHECK.due("count(6)", length <= 4 ? 1 : 2, lock.count(6));
        }
    }

    private static void aRunWaitsForItsLastShip() {
        CHECK.sentence("not ahead of any of its ships' arrival");
        // Together they wait for as long as the second one is behind; alone it waits for the rest
        // of two fill times. At one fill time both are alike, and ship 0 goes ahead.
        for (int fill : FILLS) {
            for (int behind = 0; behind <= 2 * fill + 1; behind++) {
                LockRuns lock = Locks.one(8, 2, fill);
                lock.ship(8, 1, 0, Locks.UP, 2);
                lock.ship(8, 1, behind, Locks.UP, 2);
                boolean together = behind < fill;
                String why = " with fill " + fill + " and " + behind + " behind";
                CHECK.due("plan()" + why, together ? behind : Math.max(2 * fill - behind, 0),
                        lock.plan());
                CHECK.due("of(0, 2)" + why, together ? behind : 0, lock.of(0, 2));
                CHECK.due("of(1, 2)" + why, together ? behind : Math.max(2 * fill, behind),
                        lock.of(1, 2));
            }
        }
    }

    private static void aRunWaitsForTheChamber() {
        CHECK.sentence("not ahead of when the chamber is free");
        for (int fill : FILLS) {
            for (int late = -1; late <= 1; late++) {
                LockRuns lock = Locks.narrow(fill);
                Locks.longShip(lock, 0, Locks.UP);
                Locks.longShip(lock, fill + late, Locks.DOWN);
                CHECK.due("plan() with fill " + fill, Math.max(-late, 0), lock.plan());
                CHECK.due("of(1, 2)", fill + Math.max(late, 0), lock.of(1, 2));
            }
        }
    }

    private static void atTheOtherLevelItComesBackFirst() {
        CHECK.sentence("and FILL later than that if the chamber is at the other level");
        for (int fill : FILLS) {
            for (int late = -1; late <= 1; late++) {
                LockRuns lock = Locks.narrow(fill);
                Locks.longShip(lock, 0, Locks.UP);
                Locks.longShip(lock, 2 * fill + late, Locks.UP);
                CHECK.due("plan() with fill " + fill, Math.max(-late, 0), lock.plan());
                CHECK.due("of(1, 2)", 2 * fill + Math.max(late, 0), lock.of(1, 2));
            }
        }
        LockRuns down = Locks.narrow(10);
        Locks.longShip(down, 10, Locks.DOWN);
        Locks.longShip(down, 29, Locks.DOWN);
        CHECK.due("plan() of two that come down", 1, down.plan());
        CHECK.due("of(1, 2)", 30, down.of(1, 2));
    }

    private static void atFirstItComesBackForADownShip() {
        CHECK.sentence("(it comes back empty)");
        for (int fill : FILLS) {
            for (int late = -1; late <= 1; late++) {
                LockRuns lock = Locks.narrow(fill);
                Locks.longShip(lock, fill + late, Locks.DOWN);
                CHECK.due("plan() with fill " + fill, Math.max(-late, 0), lock.plan());
                CHECK.due("of(0, 1): the empty run is none", 0, lock.of(0, 1));
                CHECK.due("count(6)", 1, lock.count(6));
            }
        }
    }

    /** When a ship that arrives at 100 begins, with this fill and this span. */
    private static int begin(int fill, int from, int to) {
        LockRuns lock = Locks.narrow(fill);
        Locks.longShip(lock, 100, Locks.UP);
        lock.closed(0, from, to);
        lock.plan();
        return lock.of(0, 2);
    }

    private static void aRunEndsAheadOfASpan() {
        CHECK.sentence("no time from its beginning up to FILL less 1 behind it is in a closed span");
        for (int fill : FILLS) {
            CHECK.due("a span right behind, fill " + fill, 100, begin(fill, 100 + fill, 300));
            CHECK.due("a span at the last time, fill " + fill, 300, begin(fill, 99 + fill, 300));
            CHECK.due("a span of the last time, fill " + fill, 100 + fill,
                    begin(fill, 99 + fill, 100 + fill));
            CHECK.due("a span of the first time, fill " + fill, 101, begin(fill, 100, 101));
            CHECK.due("a span round all, fill " + fill, 300, begin(fill, 0, 300));
        }
        CHECK.due("a span inside the run", 160, begin(60, 120, 160));
    }

    private static void aRunBeginsAtASpansEnd() {
        CHECK.sentence("the first time and those up to the last but the span's end belong to it");
        for (int fill : FILLS) {
            CHECK.due("a span that ends there, fill " + fill, 100, begin(fill, 50, 100));
            CHECK.due("a span that ends one later, fill " + fill, 101, begin(fill, 50, 101));
            CHECK.due("a span that ends one earlier, fill " + fill, 100, begin(fill, 50, 99));
            CHECK.due("a span that begins there, fill " + fill, 200, begin(fill, 100, 200));
        }
        CHECK.due("the greatest end", 10000, begin(60, 0, 10000));
        CHECK.due("the last span of all", 100, begin(60, 9999, 10000));
    }

    private static void spansAreGoneThroughToTheLast() {
        CHECK.sentence("A run BEGINS as early as it can");
        for (int hole = 0; hole <= 8; hole++) {
            for (int turned = 0; turned < 2; turned++) {
                LockRuns lock = Locks.narrow(10);
                Locks.longShip(lock, 0, Locks.UP);
                for (int told = 0; told < 8; told++) {
                    int span = turned == 0 ? told : 7 - told;
                    // Nine times between two spans are too few, but ten at one place.
                    int from = 29 * span + (span > 0 && span >= hole && hole > 0 ? 1 : 0);
                    lock.closed(0, from, from + 20);
                }
                int want = hole == 0 || hole == 8 ? 7 * 29 + 20 : 29 * (hole - 1) + 20;
                CHECK.due("plan() with room ahead of span " + hole, want, lock.plan());
            }
        }
    }

    private static void emptyRunsMayPassSpans() {
        CHECK.sentence("so that no time from its beginning ..");
        LockRuns lock = Locks.narrow(10);
        Locks.longShip(lock, 0, Locks.DOWN);
        lock.closed(0, 0, 10);
        CHECK.due("plan() of one that comes down behind a span", 10, lock.plan());
        LockRuns between = Locks.narrow(10);
        Locks.longShip(between, 0, Locks.UP);
        Locks.longShip(between, 20, Locks.UP);
        between.closed(0, 10, 20);
        CHECK.due("plan() with a span between two runs", 0, between.plan());
        between.closed(0, 20, 21);
        CHECK.due("plan() with a longer span", 1, between.plan());
    }

    private static void theChamberIsFreeFillLater() {
        CHECK.sentence("The chamber is free again FILL behind that, at the other level.");
        LockRuns lock = Locks.narrow(10);
        Locks.longShip(lock, 0, Locks.UP);
        Locks.longShip(lock, 0, Locks.DOWN);
        Locks.longShip(lock, 0, Locks.UP);
        Locks.longShip(lock, 0, Locks.DOWN);
        lock.closed(0, 5, 7);
        CHECK.due("plan() of up, down, up, down", 7 + 17 + 27 + 37, lock.plan());
        CHECK.due("of(0, 2)", 7, lock.of(0, 2));
        CHECK.due("of(1, 2)", 17, lock.of(1, 2));
        CHECK.due("of(2, 2)", 27, lock.of(2, 2));
        CHECK.due("of(3, 2)", 37, lock.of(3, 2));
        LockRuns each = Locks.one(8, 1, 3);
        each.chamber(1, 3, 50);
        Locks.longShip(each, 0, Locks.UP);
        Locks.longShip(each, 0, Locks.UP);
        each.ship(1, 3, 0, Locks.UP, 2);
        each.ship(1, 3, 0, Locks.DOWN, 2);
        CHECK.due("plan() of two chambers, each with its fill", 6 + 50, each.plan());
    }

    private static LockRuns planned(int ships) {
        LockRuns lock = Locks.one(8, 2, 10);
        for (int ship = 0; ship < ships; ship++) {
            lock.ship(8, 1, 0, Locks.DOWN, 2);
        }
        lock.plan();
        return lock;
    }

    private static void ofNeedsAShipAndAWhat() {
        CHECK.sentence("of: IndexOutOfBoundsException if there is no such ship or what");
        for (int ships = 0; ships <= 4; ships++) {
            LockRuns lock = planned(ships);
            for (int ship : new int[] {-1, ships, 4, 5, Integer.MIN_VALUE, Integer.MAX_VALUE}) {
                for (int what = -1; what <= 7; what++) {
                    int w = what;
                    CHECK.refused("of(" + ship + ", " + w + ") of " + ships, Check.INDEX,
                            () -> lock.of(ship, w));
                }
            }
            for (int ship = 0; ship < ships; ship++) {
                int s = ship;
                for (int what : new int[] {-1, 7, 8, Integer.MIN_VALUE, Integer.MAX_VALUE}) {
                    CHECK.refused("of(" + s + ", " + what + ")", Check.INDEX,
                            () -> lock.of(s, what));
                }
                int begin = 10 + ship / 2 * 20;
                int[] want = {0, ship / 2, begin, 0, ship % 2, begin, 0};
                for (int what = 0; what <= 6; what++) {
                    CHECK.due("of(" + s + ", " + what + ")", want[what], lock.of(s, what));
                }
            }
        }
    }

    private static void ofNeedsAPlan() {
        CHECK.sentence("of: IllegalStateException without a plan.");
        LockRuns lock = Locks.one(8, 3, 10);
        lock.ship(8, 1, 0, 0, 2);
        for (int what = 0; what <= 6; what++) {
            int w = what;
            CHECK.refused("of(0, " + w + ") ahead of the first plan", Check.STATE,
                    () -> lock.of(0, w));
        }
        lock.plan();
        lock.rule(0, 3);
        CHECK.refused("of(0, 0) with a plan that is void", Check.STATE, () -> lock.of(0, 0));
        LockRuns none = new LockRuns();
        none.ship(1, 1, 0, 0, 0);
        none.plan();
        CHECK.refused("of(0, 0) where there is none", Check.STATE, () -> none.of(0, 0));
    }

    private static void runNeedsAChamberAndAWhat() {
        CHECK.sentence("run: IndexOutOfBoundsException if there is no such chamber or what");
        LockRuns lock = new LockRuns();
        for (int chambers = 0; chambers <= 2; chambers++) {
            lock.plan();
            for (int chamber : new int[] {-1, chambers, 2, 3, Integer.MIN_VALUE,
                Integer.MAX_VALUE}) {
                for (int what = -1; what <= 3; what++) {
                    int w = what;
                    CHECK.refused("run(" + chamber + ", 0, " + w + ") of " + chambers,
                            Check.INDEX, () -> lock.run(chamber, 0, w));
                }
            }
            for (int chamber = 0; chamber < chambers; chamber++) {
                int c = chamber;
                for (int what : new int[] {-1, 3, 4, Integer.MIN_VALUE, Integer.MAX_VALUE}) {
                    CHECK.refused("run(" + c + ", 0, " + what + ")", Check.INDEX,
                            () -> lock.run(c, 0, what));
                    CHECK.refused("run(" + c + ", 9, " + what + ")", Check.INDEX,
                            () -> lock.run(c, 9, what));
                }
                for (int what = 0; what <= 2; what++) {
                    CHECK.due("run(" + c + ", 0, " + what + ")", -1, lock.run(c, 0, what));
                }
            }
            if (chambers < 2) {
                lock.chamber(8, 3, 10);
            }
        }
    }

    private static void runNeedsAPlan() {
        CHECK.sentence("run: IllegalStateException without a plan");
        LockRuns lock = Locks.one(8, 3, 10);
        for (int k : new int[] {0, 1, -1, 9, Integer.MAX_VALUE}) {
            for (int what = 0; what <= 2; what++) {
                int w = what;
                CHECK.refused("run(0, " + k + ", " + w + ")", Check.STATE,
                        () -> lock.run(0, k, w));
            }
        }
        lock.plan();
        lock.closed(0, 0, 1);
        CHECK.refused("run(0, 0, 0) with a plan that is void", Check.STATE,
                () -> lock.run(0, 0, 0));
    }

    private static void aRunThatIsNotThereIsNone() {
        CHECK.sentence("NONE if it has no such run.");
        for (int ships = 0; ships <= 4; ships++) {
            LockRuns lock = planned(ships);
            int runs = (ships + 1) / 2;
            for (int k : new int[] {-1, runs, runs + 1, 4, 5, Integer.MIN_VALUE,
                Integer.MAX_VALUE}) {
                for (int what = 0; what <= 2; what++) {
                    CHECK.due("run(0, " + k + ", " + what + ") of " + runs, -1,
                            lock.run(0, k, what));
                }
            }
            for (int k = 0; k < runs; k++) {
                CHECK.due("run(0, " + k + ", 0)", 10 + 20 * k, lock.run(0, k, 0));
                CHECK.due("run(0, " + k + ", 1)", 1, lock.run(0, k, 1));
                CHECK.due("run(0, " + k + ", 2)", 2 * k + 1 < ships ? 3 << 2 * k : 1 << 2 * k,
                        lock.run(0, k, 2));
            }
        }
    }
}
