/** The edges that the document names for chambers and closed spans: Terms, promises 1, 2, 4. */
public final class ChamberEdgeTest {
    private static final Check CHECK = new Check("ChamberEdgeTest");

    public static void main(String[] args) {
        aNewObjectHasNothing();
        thereAreTwoChambersAtMost();
        aThirdChamberIsRefused();
        lengthsGoFromOneToEight();
        widthsGoFromOneToThree();
        fillsGoFromOneToSixty();
        atFirstEachIsFreeAtLevelZero();
        spansEndLaterThanTheyBegin();
        spansLieBetweenNoughtAndTenThousand();
        spansHaveAChamber();
        thereAreEightSpansAtMost();
        eachOfEightSpansHolds();
        spansAreOfOneChamber();
        CHECK.end();
    }

    private static void aNewObjectHasNothing() {
        CHECK.sentence("No chambers, no ships.");
        LockRuns lock = new LockRuns();
        CHECK.due("count(0)", 0, lock.count(0));
        CHECK.due("count(1)", 0, lock.count(1));
        CHECK.due("count(2)", 0, lock.count(2));
        CHECK.due("count(3)", 0, lock.count(3));
        CHECK.refused("fits(0, 0)", Check.ARGUMENT, () -> lock.fits(0, 0) ? 1 : 0);
        CHECK.refused("run(0, 0, 0)", Check.INDEX, () -> lock.run(0, 0, 0));
        CHECK.refused("of(0, 0)", Check.INDEX, () -> lock.of(0, 0));
        CHECK.refused("home(0)", Check.INDEX, () -> lock.home(0));
        CHECK.refused("late(0, 0)", Check.INDEX, () -> lock.late(0, 0));
        CHECK.due("closed(0, 0, 1)", false, lock.closed(0, 0, 1));
        CHECK.due("the first chamber's number", 0, lock.chamber(1, 1, 1));
        CHECK.due("the first ship's number", 0, lock.ship(1, 1, 0, 0, 0));
    }

    private static void thereAreTwoChambersAtMost() {
        CHECK.sentence("CHAMBERS 0, 1 (2 at most)");
        LockRuns lock = new LockRuns();
        lock.ship(2, 1, 0, Locks.UP, Locks.EITHER);
        CHECK.due("home(0) of no chamber", -1, lock.home(0));
        CHECK.due("chamber(1, 1, 5)", 0, lock.chamber(1, 1, 5));
        CHECK.due("count(0)", 1, lock.count(0));
        CHECK.refused("fits(1, 0) with one chamber", Check.ARGUMENT,
                () -> lock.fits(1, 0) ? 1 : 0);
        CHECK.due("chamber(2, 1, 7)", 1, lock.chamber(2, 1, 7));
        CHECK.due("count(0)", 2, lock.count(0));
        CHECK.due("fits(0, 1)", false, lock.fits(0, 1));
        CHECK.due("fits(1, 1)", true, lock.fits(1, 1));
        CHECK.refused("fits(2, 0) with two chambers", Check.ARGUMENT,
                () -> lock.fits(2, 0) ? 1 : 0);
    }

    private static void aThirdChamberIsRefused() {
        CHECK.sentence("IllegalStateException if there are 2.");
        LockRuns lock = Locks.two(4, 1, 10);
        lock.ship(4, 1, 0, Locks.DOWN, Locks.EITHER);
        lock.plan();
        String before = Check.state(lock);
        for (int time = 0; time < 3; time++) {
            CHECK.refused("chamber(8, 3, 1)", Check.STATE, () -> lock.chamber(8, 3, 1));
        }
        CHECK.due("all that is told behind it", before, Check.state(lock));
        CHECK.due("plan() behind it", 10, lock.plan());
    }

    private static void lengthsGoFromOneToEight() {
        CHECK.sentence("CHAMBERS .. have a LENGTH (1 .. 8)");
        for (int length = 1; length <= 8; length++) {
            LockRuns lock = new LockRuns();
            CHECK.due("chamber(" + length + ", 1, 1)", 0, lock.chamber(length, 1, 1));
            for (int ship = 1; ship <= 8; ship++) {
                LockRuns tried = Locks.one(length, 1, 1);
                tried.ship(ship, 1, 0, 0, 2);
                CHECK.due("length " + ship + " in " + length, ship <= length, tried.fits(0, 1));
            }
        }
        for (int length : Locks.outside(1, 8)) {
            isRefused(length, 1, 1);
        }
    }

    private static void widthsGoFromOneToThree() {
        CHECK.sentence("CHAMBERS .. have .. a WIDTH (1 .. 3)");
        for (int width = 1; width <= 3; width++) {
            LockRuns lock = new LockRuns();
            CHECK.due("chamber(1, " + width + ", 1)", 0, lock.chamber(1, width, 1));
            for (int ship = 1; ship <= 3; ship++) {
                LockRuns tried = Locks.one(1, width, 1);
                tried.ship(1, ship, 0, 0, 2);
                CHECK.due("width " + ship + " in " + width, ship <= width, tried.fits(0, 1));
            }
        }
        for (int width : Locks.outside(1, 3)) {
            isRefused(1, width, 1);
        }
    }

    private static void fillsGoFromOneToSixty() {
        CHECK.sentence("CHAMBERS .. have .. a FILL time (1 .. 60)");
        for (int fill = 1; fill <= 60; fill++) {
            LockRuns lock = new LockRuns();
            CHECK.due("chamber(8, 1, " + fill + ")", 0, lock.chamber(8, 1, fill));
            Locks.longShip(lock, 0, Locks.UP);
            Locks.longShip(lock, 0, Locks.UP);
            CHECK.due("plan() of two runs with fill " + fill, 2 * fill, lock.plan());
        }
        for (int fill : Locks.outside(1, 60)) {
            isRefused(1, 1, fill);
        }
    }

    private static void isRefused(int length, int width, int fill) {
        LockRuns lock = new LockRuns();
        String call = "chamber(" + length + ", " + width + ", " + fill + ")";
        CHECK.refused(call, Check.ARGUMENT, () -> lock.chamber(length, width, fill));
        CHECK.due("count(0) behind " + call, 0, lock.count(0));
        CHECK.due("the next chamber's number", 0, lock.chamber(1, 1, 1));
    }

    private static void atFirstEachIsFreeAtLevelZero() {
        CHECK.sentence("at time 0 each is free, at level 0");
        for (int chamber = 0; chamber < 2; chamber++) {
            for (int direction = 0; direction < 2; direction++) {
                LockRuns lock = Locks.one(chamber == 0 ? 8 : 1, 1, 7);
                lock.chamber(chamber == 1 ? 8 : 1, 1, 7);
                Locks.longShip(lock, 0, direction);
                CHECK.due("plan() of direction " + direction, 7 * direction, lock.plan());
                CHECK.due("of(0, 0)", chamber, lock.of(0, 0));
                CHECK.due("of(0, 2)", 7 * direction, lock.of(0, 2));
            }
        }
    }

    private static void spansEndLaterThanTheyBegin() {
        CHECK.sentence("A chamber is CLOSED from a time up to a later one");
        LockRuns lock = Locks.one(8, 3, 10);
        for (int from : new int[] {0, 1, 500, 9999, 10000}) {
            CHECK.due("closed(0, " + from + ", the same)", false, lock.closed(0, from, from));
            CHECK.due("closed(0, " + from + ", less)", false, lock.closed(0, from, from - 1));
        }
        CHECK.due("closed(0, 10000, 0)", false, lock.closed(0, 10000, 0));
        CHECK.due("count(2)", 0, lock.count(2));
        CHECK.due("closed(0, 500, 501)", true, lock.closed(0, 500, 501));
        CHECK.due("count(2)", 1, lock.count(2));
        CHECK.due("the same span again", true, lock.closed(0, 500, 501));
        CHECK.due("count(2)", 2, lock.count(2));
    }

    private static void spansLieBetweenNoughtAndTenThousand() {
        CHECK.sentence("(0 .. 10000): true; false if .. these can't be");
        LockRuns lock = Locks.one(8, 3, 10);
        for (int time : Locks.outside(0, 10000)) {
            CHECK.due("closed(0, " + time + ", 10000)", false, lock.closed(0, time, 10000));
            CHECK.due("closed(0, 0, " + time + ")", false, lock.closed(0, 0, time));
            CHECK.due("closed(0, " + time + ", next)", false, lock.closed(0, time, time + 1));
        }
        CHECK.due("closed(0, 10000, 10001)", false, lock.closed(0, 10000, 10001));
        CHECK.due("closed(0, -1, 0)", false, lock.closed(0, -1, 0));
        CHECK.due("count(2)", 0, lock.count(2));
        CHECK.due("closed(0, 0, 1)", true, lock.closed(0, 0, 1));
        CHECK.due("closed(0, 9999, 10000)", true, lock.closed(0, 9999, 10000));
        CHECK.due("closed(0, 0, 10000)", true, lock.closed(0, 0, 10000));
        CHECK.due("count(2)", 3, lock.count(2));
        lock.ship(1, 1, 1000, Locks.UP, Locks.EITHER);
        CHECK.due("plan() behind the greatest span", 9000, lock.plan());
    }

    private static void spansHaveAChamber() {
        CHECK.sentence("false if there is none such");
        LockRuns lock = new LockRuns();
        for (int chambers = 0; chambers <= 2; chambers++) {
            for (int chamber : new int[] {-1, 0, 1, 2, 3, Integer.MIN_VALUE, Integer.MAX_VALUE}) {
                int spans = lock.count(2);
                boolean there = chamber >= 0 && chamber < chambers;
                CHECK.due("closed(" + chamber + ", 3, 4) of " + chambers, there,
                        lock.closed(chamber, 3, 4));
                CHECK.due("count(2)", there ? spans + 1 : spans, lock.count(2));
            }
            if (chambers < 2) {
                lock.chamber(8, 1, 1);
            }
        }
    }

    private static void thereAreEightSpansAtMost() {
        CHECK.sentence("(8 in all at most)");
        for (int ofFirst = 0; ofFirst <= 8; ofFirst++) {
            LockRuns lock = Locks.two(8, 1, 1);
            for (int span = 0; span < 8; span++) {
                CHECK.due("span " + span, true, lock.closed(span < ofFirst ? 0 : 1, 0, 9));
                CHECK.due("count(2)", span + 1, lock.count(2));
            }
            CHECK.due("a ninth one of chamber 0", false, lock.closed(0, 9, 20));
            CHECK.due("a ninth one of chamber 1", false, lock.closed(1, 9, 20));
            CHECK.due("count(2)", 8, lock.count(2));
            Locks.longShip(lock, 0, Locks.UP);
            int want = ofFirst == 0 || ofFirst == 8 ? 0 : 9;
            CHECK.due("plan() that knows of no ninth span", want, lock.plan());
        }
    }

    private static void eachOfEightSpansHolds() {
        CHECK.sentence("CLOSED spans of a chamber");
        for (int span = 0; span < 8; span++) {
            LockRuns lock = Locks.narrow(1);
            for (int told = 0; told < 8; told++) {
                lock.closed(0, 100 * told, 100 * told + 10);
            }
            lock.closed(0, 800, 810);
            Locks.longShip(lock, 100 * span + 3, Locks.UP);
            CHECK.due("plan() of a ship in span " + span, 7, lock.plan());
            lock.late(0, 803);
            CHECK.due("of(0, 2) where a ninth was refused", 803, lock.of(0, 2));
        }
    }

    private static void spansAreOfOneChamber() {
        CHECK.sentence("CLOSED spans of a chamber, from a time up to a later one");
        for (int shut = 0; shut < 2; shut++) {
            LockRuns lock = Locks.two(8, 1, 5);
            lock.closed(shut, 0, 40);
            Locks.longShip(lock, 0, Locks.UP);
            CHECK.due("plan()", 0, lock.plan());
            CHECK.due("of(0, 0)", 1 - shut, lock.of(0, 0));
            Locks.longShip(lock, 0, Locks.UP);
            CHECK.due("plan() of two ships", 10, lock.plan());
            CHECK.due("of(1, 0)", 1 - shut, lock.of(1, 0));
        }
    }
}
