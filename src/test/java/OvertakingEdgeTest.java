/** The edges that the document names for overtaking, waiting and which plan is the first. */
public final class OvertakingEdgeTest {
    private static final Check CHECK = new Check("OvertakingEdgeTest");

    public static void main(String[] args) {
        onlyShipsOfItsDirectionOvertake();
        onlyLaterShipsOvertake();
        atTheSameTimeTheGreaterNumberOvertakes();
        onlyEarlierRunsOvertake();
        eachOtherOneCounts();
        overIsThreeAtFirst();
        overGoesFromNoughtToThree();
        overIsReachedButNotPassed();
        overIsForEachShip();
        overMayLeaveNoPlan();
        waitingIsBeginningLessArrival();
        waitingOfAPlanIsTheSum();
        leastWaitingIsAhead();
        thenTheLesserBeginning();
        thenTheLesserChamber();
        tiesGoByShipsNumber();
        CHECK.end();
    }

    /**
     * Chamber 0 is for long ships alone and closed up to 500, chamber 1 for wide ones and open;
     * fill 10.
     */
    private static LockRuns apart() {
        LockRuns lock = Locks.one(8, 1, 10);
        lock.chamber(1, 3, 10);
        lock.closed(0, 0, 500);
        return lock;
    }

    private static int wideShip(LockRuns lock, int arrives, int direction) {
        return lock.ship(1, 3, arrives, direction, Locks.EITHER);
    }

    private static void onlyShipsOfItsDirectionOvertake() {
        CHECK.sentence("A ship is OVERTAKEN by each other one of its direction");
        for (int one = 0; one <= 1; one++) {
            for (int other = 0; other <= 1; other++) {
                LockRuns lock = apart();
                Locks.longShip(lock, 100, one);
                wideShip(lock, 200, other);
                CHECK.due("plan()", 400, lock.plan());
                CHECK.due("of(0, 6) of " + one + " and " + other, one == other ? 1 : 0,
                        lock.of(0, 6));
                lock.rule(0, 0);
                CHECK.due("plan() without overtaking", one == other ? -1 : 400, lock.plan());
            }
        }
    }

    private static void onlyLaterShipsOvertake() {
        CHECK.sentence("that arrives later");
        for (int later = -1; later <= 1; later++) {
            for (int turned = 0; turned <= 1; turned++) {
                LockRuns lock = apart();
                int waits = turned;
                if (turned == 0) {
                    Locks.longShip(lock, 100, Locks.UP);
                    wideShip(lock, 100 + later, Locks.UP);
                } else {
                    wideShip(lock, 100 + later, Locks.UP);
                    Locks.longShip(lock, 100, Locks.UP);
                }
                lock.plan();
                int want = later == 0 ? 1 - turned : later > 0 ? 1 : 0;
                CHECK.due("of(" + waits + ", 6), the other " + later + " later", want,
                        lock.of(waits, 6));
                CHECK.due("of(" + (1 - waits) + ", 6)", 0, lock.of(1 - waits, 6));
                lock.rule(0, 0);
                CHECK.due("plan() without overtaking", want == 1 ? -1 : 400, lock.plan());
            }
        }
    }

    private static void atTheSameTimeTheGreaterNumberOvertakes() {
        CHECK.sentence("(or at the same time, with a greater number)");
        for (int waits = 0; waits < 4; waits++) {
            LockRuns lock = apart();
            for (int ship = 0; ship < 4; ship++) {
                if (ship == waits) {
                    Locks.longShip(lock, 7, Locks.UP);
                } else {
                    wideShip(lock, 7, Locks.UP);
                }
            }
            lock.plan();
            CHECK.due("of(" + waits + ", 6)", 3 - waits, lock.of(waits, 6));
        }
    }

    private static void onlyEarlierRunsOvertake() {
        CHECK.sentence("and whose run begins earlier");
        for (int open = 499; open <= 501; open++) {
            LockRuns lock = apart();
            Locks.longShip(lock, 0, Locks.UP);
            wideShip(lock, 1, Locks.UP);
            lock.closed(1, 0, open);
            lock.rule(0, 0);
            int want = open < 500 ? -1 : 500 + open - 1;
            CHECK.due("plan() with the others' chamber open at " + open, want, lock.plan());
            lock.rule(0, 1);
            lock.plan();
            CHECK.due("of(0, 6) with it open at " + open, open < 500 ? 1 : 0, lock.of(0, 6));
        }
        LockRuns together = Locks.one(8, 2, 10);
        together.ship(8, 1, 5, Locks.UP, 2);
        together.ship(8, 1, 4, Locks.UP, 2);
        together.rule(0, 0);
        CHECK.due("plan() of one run", 1, together.plan());
        CHECK.due("of(0, 6) in one run", 0, together.of(0, 6));
        CHECK.due("of(1, 6) in one run", 0, together.of(1, 6));
    }

    private static void eachOtherOneCounts() {
        CHECK.sentence("by each other one");
        for (int others = 0; others <= 3; others++) {
            LockRuns lock = apart();
            Locks.longShip(lock, 0, Locks.UP);
            for (int ship = 0; ship < others; ship++) {
                wideShip(lock, 1, Locks.UP);
            }
            lock.plan();
            CHECK.due("of(0, 6) of " + others + " others", others, lock.of(0, 6));
            for (int ship = 1; ship <= others; ship++) {
                CHECK.due("of(" + ship + ", 6)", 0, lock.of(ship, 6));
            }
        }
    }

    private static void overIsThreeAtFirst() {
        CHECK.sentence("OVER times at most (0 .. 3; 3 at first)");
        LockRuns lock = apart();
        CHECK.due("count(5)", 3, lock.count(5));
        Locks.longShip(lock, 0, Locks.UP);
        for (int ship = 1; ship <= 3; ship++) {
            wideShip(lock, 1, Locks.UP);
        }
        CHECK.due("plan() with three that overtake", 500 + 20 + 40, lock.plan());
        CHECK.due("of(0, 6)", 3, lock.of(0, 6));
    }

    private static void overGoesFromNoughtToThree() {
        CHECK.sentence("GAP and OVER: true; false if one is not 0 .. 3. (OVER)");
        LockRuns lock = new LockRuns();
        for (int over : new int[] {3, 2, 1, 0, 1, 2, 3}) {
            CHECK.due("rule(1, " + over + ")", true, lock.rule(1, over));
            CHECK.due("count(5)", over, lock.count(5));
        }
        lock.rule(1, 2);
        lock.plan();
        for (int over : Locks.outside(0, 3)) {
            for (int gap : new int[] {0, 3, -1, 4}) {
                CHECK.due("rule(" + gap + ", " + over + ")", false, lock.rule(gap, over));
                CHECK.due("count(4)", 1, lock.count(4));
                CHECK.due("count(5)", 2, lock.count(5));
                CHECK.due("count(3): the plan stays", 1, lock.count(3));
            }
        }
    }

    private static void overIsReachedButNotPassed() {
        CHECK.sentence("OVER times at most");
        // Ship 0 waits for chamber 0; a later ship may go with it instead of overtaking it.
        for (int over = 0; over <= 3; over++) {
            LockRuns lock = Locks.one(8, 3, 10);
            lock.chamber(1, 3, 10);
            lock.closed(0, 0, 500);
            lock.ship(5, 3, 0, Locks.UP, 2);
            for (int ship = 1; ship <= 3; ship++) {
                wideShip(lock, ship, Locks.UP);
            }
            lock.rule(0, over);
            CHECK.due("a plan with OVER " + over, true, lock.plan() >= 0);
            CHECK.due("of(0, 6) with OVER " + over, over, lock.of(0, 6));
            int aboard = lock.run(0, 0, 2);
            CHECK.due("ships aboard with ship 0", 4 - over, Integer.bitCount(aboard));
        }
    }

    private static void overIsForEachShip() {
        CHECK.sentence("A ship is OVERTAKEN .. OVER times at most");
        // Ships 0 and 1 wait together, and each is overtaken once.
        LockRuns lock = apart();
        lock.ship(4, 1, 0, Locks.UP, 2);
        lock.ship(4, 1, 0, Locks.UP, 2);
        wideShip(lock, 1, Locks.UP);
        lock.rule(0, 1);
        CHECK.due("plan() with OVER 1", 1000, lock.plan());
        CHECK.due("of(0, 6)", 1, lock.of(0, 6));
        CHECK.due("of(1, 6)", 1, lock.of(1, 6));
        wideShip(lock, 1, Locks.UP);
        CHECK.due("plan() with two that overtake and OVER 1", -1, lock.plan());
        lock.rule(0, 2);
        CHECK.due("plan() with two that overtake and OVER 2", 1020, lock.plan());
        CHECK.due("of(0, 6)", 2, lock.of(0, 6));
        CHECK.due("of(1, 6)", 2, lock.of(1, 6));
    }

    private static void overMayLeaveNoPlan() {
        CHECK.sentence("plan: NONE if there is none. (OVER)");
        for (int others = 1; others <= 3; others++) {
            LockRuns lock = apart();
            Locks.longShip(lock, 0, Locks.UP);
            for (int ship = 0; ship < others; ship++) {
                wideShip(lock, 1, Locks.UP);
            }
            for (int over = 0; over <= 3; over++) {
                lock.rule(0, over);
                CHECK.due("a plan of " + others + " others with OVER " + over, over >= others,
                        lock.plan() >= 0);
                CHECK.due("count(3)", over >= others ? 1 : 0, lock.count(3));
            }
        }
    }

    private static void waitingIsBeginningLessArrival() {
        CHECK.sentence("WAITING of a ship: its run's beginning less its arrival");
        LockRuns lock = Locks.narrow(10);
        Locks.longShip(lock, 3, Locks.DOWN);
        CHECK.due("plan()", 7, lock.plan());
        CHECK.due("of(0, 5)", 7, lock.of(0, 5));
        CHECK.due("late(0, 10)", 0, lock.late(0, 10));
        CHECK.due("of(0, 5) of one that arrives as it begins", 0, lock.of(0, 5));
        lock.closed(0, 0, 10000);
        lock.plan();
        CHECK.due("late(0, 0)", 0, lock.late(0, 0));
        CHECK.due("of(0, 5) of the longest span", 10000, lock.of(0, 5));
    }

    private static void waitingOfAPlanIsTheSum() {
        CHECK.sentence("of a plan the sum");
        LockRuns lock = Locks.two(8, 2, 60);
        lock.closed(0, 0, 10000);
        lock.closed(1, 0, 10000);
        int sum = 0;
        for (int ship = 0; ship < 4; ship++) {
            lock.ship(8, 2, ship, Locks.UP, 2);
            int begin = 10000 + (ship / 2) * 120;
            sum += begin - ship;
            CHECK.due("plan() of " + (ship + 1), sum, lock.plan());
            int told = 0;
            for (int each = 0; each <= ship; each++) {
                told += lock.of(each, 5);
            }
            CHECK.due("the sum of what is told", sum, told);
        }
    }

    private static void leastWaitingIsAhead() {
        CHECK.sentence("THE PLAN is that of least waiting");
        // Ship 0 lets two others go first: it begins later, but less is waited in all.
        LockRuns lock = Locks.one(8, 2, 10);
        lock.ship(8, 2, 0, Locks.UP, 2);
        lock.ship(8, 1, 0, Locks.UP, 2);
        lock.ship(8, 1, 0, Locks.UP, 2);
        CHECK.due("plan()", 20, lock.plan());
        CHECK.due("of(0, 2)", 20, lock.of(0, 2));
        CHECK.due("of(1, 2)", 0, lock.of(1, 2));
        CHECK.due("of(2, 2)", 0, lock.of(2, 2));
        lock.rule(0, 1);
        CHECK.due("plan() with OVER 1", 40, lock.plan());
        CHECK.due("of(0, 2) with OVER 1", 0, lock.of(0, 2));
    }

    private static void thenTheLesserBeginning() {
        CHECK.sentence("the lesser beginning ahead");
        LockRuns lock = Locks.narrow(10);
        for (int ship = 0; ship < 4; ship++) {
            Locks.longShip(lock, 0, Locks.UP);
        }
        CHECK.due("plan() of four alike", 120, lock.plan());
        for (int ship = 0; ship < 4; ship++) {
            CHECK.due("of(" + ship + ", 2)", 20 * ship, lock.of(ship, 2));
        }
        LockRuns chambers = Locks.two(8, 1, 10);
        chambers.closed(0, 0, 5);
        Locks.longShip(chambers, 0, Locks.UP);
        Locks.longShip(chambers, 0, Locks.UP);
        CHECK.due("plan() with chamber 0 closed at first", 5, chambers.plan());
        CHECK.due("of(0, 0): the beginning ahead of the chamber", 1, chambers.of(0, 0));
        CHECK.due("of(0, 2)", 0, chambers.of(0, 2));
        CHECK.due("of(1, 2)", 5, chambers.of(1, 2));
    }

    private static void thenTheLesserChamber() {
        CHECK.sentence("then the lesser chamber");
        LockRuns lock = Locks.two(8, 1, 10);
        Locks.longShip(lock, 0, Locks.UP);
        CHECK.due("plan() of one ship", 0, lock.plan());
        CHECK.due("of(0, 0)", 0, lock.of(0, 0));
        Locks.longShip(lock, 0, Locks.UP);
        CHECK.due("plan() of two ships", 0, lock.plan());
        CHECK.due("of(0, 0)", 0, lock.of(0, 0));
        CHECK.due("of(1, 0)", 1, lock.of(1, 0));
        LockRuns together = Locks.two(8, 2, 10);
        together.ship(8, 1, 0, Locks.UP, 2);
        together.ship(8, 1, 0, Locks.UP, 2);
        together.plan();
        CHECK.due("of(1, 0) of two that fit together", 0, together.of(1, 0));
        LockRuns slower = Locks.one(8, 1, 60);
        slower.chamber(8, 1, 1);
        Locks.longShip(slower, 0, Locks.UP);
        slower.plan();
        CHECK.due("of(0, 0) with a quicker chamber 1", 0, slower.of(0, 0));
    }

    private static void tiesGoByShipsNumber() {
        CHECK.sentence("of such the first: ships by number");
        // All waiting is the same; ship 0 counts ahead, then ship 1, though ship 2 would gain.
        LockRuns lock = Locks.two(8, 1, 10);
        Locks.longShip(lock, 0, Locks.UP);
        Locks.longShip(lock, 0, Locks.UP);
        Locks.longShip(lock, 0, Locks.UP);
        Locks.longShip(lock, 0, Locks.UP);
        CHECK.due("plan()", 40, lock.plan());
        int[][] want = {{0, 0, 0}, {1, 0, 0}, {0, 1, 20}, {1, 1, 20}};
        for (int ship = 0; ship < 4; ship++) {
            for (int what = 0; what < 3; what++) {
                CHECK.due("of(" + ship + ", " + what + ")", want[ship][what],
                        lock.of(ship, what));
            }
        }
        // Ship 0 fits both; its chamber counts ahead of ship 1's beginning.
        LockRuns ahead = Locks.one(8, 1, 10);
        ahead.chamber(1, 3, 10);
        ahead.ship(1, 1, 0, Locks.UP, 2);
        Locks.longShip(ahead, 10, Locks.UP);
        wideShip(ahead, 10, Locks.UP);
        CHECK.due("plan() of one for both chambers", 10, ahead.plan());
        CHECK.due("of(0, 0)", 0, ahead.of(0, 0));
        CHECK.due("of(1, 2)", 20, ahead.of(1, 2));
        CHECK.due("of(2, 2)", 10, ahead.of(2, 2));
        LockRuns turned = Locks.narrow(10);
        Locks.longShip(turned, 5, Locks.UP);
        Locks.longShip(turned, 0, Locks.UP);
        CHECK.due("plan() where the second arrives first", 15, turned.plan());
        CHECK.due("of(1, 2): least waiting is ahead of the number", 0, turned.of(1, 2));
    }
}
