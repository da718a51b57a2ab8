/** The edges that the document names for rate and count: promises 12 and 13. */
public final class RateCountEdgeTest {
    private static final Check CHECK = new Check("RateCountEdgeTest");

    public static void main(String[] args) {
        ratesAreRunsInAnHour();
        runsAndMinutesGoToAThousand();
        noMinutesAreRefused();
        rateNeedsNothingElse();
        numbersAreCounted();
        aPlanIsCounted();
        theRulesAreTold();
        runsOfTheChambersAreCounted();
        anotherWhatIsNone();
        anotherChamberIsNone();
        withoutAPlanRunsAreNone();
        CHECK.end();
    }

    private static void ratesAreRunsInAnHour() {
        CHECK.sentence("Runs in an hour: 60 * runs / minutes.");
        for (int runs = 0; runs <= 1000; runs += 37) {
            LockRuns each = new LockRuns();
            for (int minutes = 1; minutes <= 1000; minutes += 27) {
                CHECK.due("rate(" + runs + ", " + minutes + ")", 60 * runs / minutes,
                        each.rate(runs, minutes));
            }
        }
        LockRuns lock = new LockRuns();
        CHECK.due("rate(0, 1)", 0, lock.rate(0, 1));
        CHECK.due("rate(1, 60)", 1, lock.rate(1, 60));
        CHECK.due("rate(1, 61)", 0, lock.rate(1, 61));
        CHECK.due("rate(2, 61)", 1, lock.rate(2, 61));
        CHECK.due("rate(7, 61)", 6, lock.rate(7, 61));
    }

    private static void runsAndMinutesGoToAThousand() {
        CHECK.sentence("IllegalArgumentException if runs or minutes are not 0 .. 1000");
        LockRuns lock = new LockRuns();
        CHECK.due("rate(0, 1000)", 0, lock.rate(0, 1000));
        CHECK.due("rate(1000, 1000)", 60, lock.rate(1000, 1000));
        CHECK.due("rate(1000, 1)", 60000, lock.rate(1000, 1));
        CHECK.due("rate(1000, 999)", 60, lock.rate(1000, 999));
        CHECK.due("rate(999, 1000)", 59, lock.rate(999, 1000));
        for (int wrong : Locks.outside(0, 1000)) {
            for (int other : new int[] {0, 1, 1000, -1, 1001}) {
                CHECK.refused("rate(" + wrong + ", " + other + ")", Check.ARGUMENT,
                        () -> lock.rate(wrong, other));
                CHECK.refused("rate(" + other + ", " + wrong + ")", Check.ARGUMENT,
                        () -> lock.rate(other, wrong));
            }
        }
    }

    private static void noMinutesAreRefused() {
        CHECK.sentence("ArithmeticException if minutes are 0.");
        LockRuns lock = new LockRuns();
        for (int runs : new int[] {0, 1, 500, 999, 1000}) {
            CHECK.refused("rate(" + runs + ", 0)", Check.ARITHMETIC, () -> lock.rate(runs, 0));
        }
    }

    private static void rateNeedsNothingElse() {
        CHECK.sentence("rate");
        LockRuns lock = Locks.narrow(10);
        Locks.longShip(lock, 0, Locks.DOWN);
        lock.plan();
        String before = Check.state(lock);
        CHECK.due("rate(3, 20)", 9, lock.rate(3, 20));
        CHECK.due("all that is told behind it", before, Check.state(lock));
    }

    private static void numbersAreCounted() {
        CHECK.sentence("what 0: chambers, 1: ships, 2: closed spans");
        LockRuns lock = new LockRuns();
        counts(lock, 0, 0, 0);
        lock.chamber(8, 3, 10);
        counts(lock, 1, 0, 0);
        lock.ship(1, 1, 0, 0, 0);
        lock.ship(1, 1, 0, 0, 0);
        counts(lock, 1, 2, 0);
        lock.closed(0, 0, 1);
        lock.closed(0, 0, 1);
        lock.closed(0, 0, 1);
        counts(lock, 1, 2, 3);
        lock.chamber(8, 3, 10);
        lock.ship(1, 1, 0, 0, 0);
        lock.ship(1, 1, 0, 0, 0);
        for (int span = 3; span < 8; span++) {
            lock.closed(1, 0, 1);
        }
        counts(lock, 2, 4, 8);
    }

    private static void counts(LockRuns lock, int... want) {
        for (int what = 0; what < want.length; what++) {
            CHECK.due("count(" + what + ")", want[what], lock.count(what));
        }
    }

    private static void aPlanIsCounted() {
        CHECK.sentence("3: 1 if there is a plan, else 0");
        LockRuns lock = Locks.narrow(10);
        CHECK.due("count(3) ahead of a plan", 0, lock.count(3));
        lock.plan();
        CHECK.due("count(3) with a plan", 1, lock.count(3));
        Locks.longShip(lock, 0, Locks.UP);
        CHECK.due("count(3) with a plan that is void", 0, lock.count(3));
        lock.plan();
        CHECK.due("count(3) with a plan", 1, lock.count(3));
        lock.late(0, 9);
        CHECK.due("count(3) behind late", 1, lock.count(3));
        lock.ship(8, 2, 0, 0, 2);
        lock.plan();
        CHECK.due("count(3) where there is no plan", 0, lock.count(3));
    }

    private static void theRulesAreTold() {
        CHECK.sentence("4: GAP, 5: OVER");
        LockRuns lock = new LockRuns();
        CHECK.due("count(4) at first", 0, lock.count(4));
        CHECK.due("count(5) at first", 3, lock.count(5));
        for (int gap = 0; gap <= 3; gap++) {
            for (int over = 0; over <= 3; over++) {
                lock.rule(gap, over);
                CHECK.due("count(4)", gap, lock.count(4));
                CHECK.due("count(5)", over, lock.count(5));
            }
        }
    }

    private static void runsOfTheChambersAreCounted() {
        CHECK.sentence("6, 7: runs of chamber 0, 1 by the plan");
        for (int ofFirst = 0; ofFirst <= 4; ofFirst++) {
            LockRuns lock = Locks.one(8, 1, 10);
            lock.chamber(1, 3, 10);
            for (int ship = 0; ship < 4; ship++) {
                if (ship < ofFirst) {
                    Locks.longShip(lock, 0, Locks.UP);
                } else {
                    lock.ship(1, 3, 0, Locks.UP, 2);
                }
            }
            lock.plan();
            CHECK.due("count(6)", ofFirst, lock.count(6));
            CHECK.due("count(7)", 4 - ofFirst, lock.count(7));
        }
    }

    private static void anotherWhatIsNone() {
        CHECK.sentence("NONE for another what");
        LockRuns lock = Locks.two(8, 3, 10);
        lock.plan();
        for (int what : new int[] {-1, 8, 9, -2, 100, Integer.MIN_VALUE, Integer.MAX_VALUE}) {
            CHECK.due("count(" + what + ")", -1, lock.count(what));
        }
    }

    private static void anotherChamberIsNone() {
        CHECK.sentence("NONE for another .. chamber");
        LockRuns lock = new LockRuns();
        lock.plan();
        CHECK.due("count(6) without chambers", -1, lock.count(6));
        CHECK.due("count(7) without chambers", -1, lock.count(7));
        lock.chamber(8, 3, 10);
        lock.plan();
        CHECK.due("count(6) of one chamber", 0, lock.count(6));
        CHECK.due("count(7) of one chamber", -1, lock.count(7));
        lock.chamber(8, 3, 10);
        lock.plan();
        CHECK.due("count(6) of two chambers", 0, lock.count(6));
        CHECK.due("count(7) of two chambers", 0, lock.count(7));
    }

    private static void withoutAPlanRunsAreNone() {
        CHECK.sentence("NONE for .. (6, 7) without a plan");
        LockRuns lock = Locks.two(8, 1, 10);
        Locks.longShip(lock, 0, Locks.UP);
        Locks.longShip(lock, 0, Locks.UP);
        CHECK.due("count(6) ahead of a plan", -1, lock.count(6));
        CHECK.due("count(7) ahead of a plan", -1, lock.count(7));
        lock.plan();
        CHECK.due("count(6) with it", 1, lock.count(6));
        CHECK.due("count(7) with it", 1, lock.count(7));
        lock.rule(0, 3);
        CHECK.due("count(6) with a plan that is void", -1, lock.count(6));
        CHECK.due("count(7) with a plan that is void", -1, lock.count(7));
    }
}
