/** Promises 7 and 11: fits, home; and where ships are laid by the plan. */
public final class LayingTest {
    private static final Check CHECK = new Check("LayingTest");

    public static void main(String[] args) {
        measuresHaveToSuffice();
        sidesAreKept();
        gapsAreKept();
        theFirstWayCounts();
        fitsKnowsNoDirection();
        fitsIsRefused();
        homeIsTheFirstChamber();
        CHECK.end();
    }

    private static LockRuns lock(int length, int width) {
        LockRuns lock = new LockRuns();
        lock.chamber(length, width, 10);
        return lock;
    }

    private static void measuresHaveToSuffice() {
        LockRuns lock = lock(4, 2);
        lock.ship(4, 2, 0, 0, 2);
        lock.ship(5, 1, 0, 0, 2);
        lock.ship(1, 3, 0, 0, 1);
        lock.ship(4, 1, 0, 0, 2);
        CHECK.due("a ship as large as the chamber", true, lock.fits(0, 1));
        CHECK.due("a longer one", false, lock.fits(0, 2));
        CHECK.due("a wider one", false, lock.fits(0, 4));
        CHECK.due("two that are too many", false, lock.fits(0, 9));
        CHECK.due("none", true, lock.fits(0, 0));
        LockRuns narrow = lock(8, 2);
        narrow.ship(1, 3, 0, 0, 0);
        narrow.ship(1, 3, 0, 0, 2);
        CHECK.due("a wider one at the left", false, narrow.fits(0, 1));
        CHECK.due("a wider one at either side", false, narrow.fits(0, 2));
    }

    private static void sidesAreKept() {
        LockRuns lock = lock(4, 2);
        lock.ship(3, 1, 0, 0, 0);
        lock.ship(3, 1, 0, 0, 0);
        lock.ship(3, 1, 0, 0, 1);
        lock.ship(3, 1, 0, 0, 2);
        CHECK.due("two at the left", false, lock.fits(0, 3));
        CHECK.due("left and right", true, lock.fits(0, 5));
        CHECK.due("left and either", true, lock.fits(0, 9));
        CHECK.due("right and either", true, lock.fits(0, 12));
        CHECK.due("left, right and either", false, lock.fits(0, 13));
        LockRuns wide = lock(8, 3);
        wide.ship(2, 1, 0, 0, 1);
        wide.ship(2, 2, 0, 0, 0);
        wide.ship(2, 2, 0, 0, 1);
        wide.plan();
        places("sides", wide, 0, 2, 0, 0, 2, 1);
    }

    private static void gapsAreKept() {
        for (int gap = 0; gap <= 3; gap++) {
            LockRuns lengthwise = lock(8, 1);
            lengthwise.ship(3, 1, 0, 0, 2);
            lengthwise.ship(3, 1, 0, 0, 2);
            lengthwise.rule(gap, 3);
            CHECK.due("3 and 3 along 8 with gap " + gap, gap <= 2, lengthwise.fits(0, 3));
            LockRuns sideways = lock(3, 3);
            sideways.ship(3, 1, 0, 0, 2);
            sideways.ship(3, 1, 0, 0, 2);
            sideways.rule(gap, 3);
            CHECK.due("1 and 1 across 3 with gap " + gap, gap <= 1, sideways.fits(0, 3));
            CHECK.due("a ship alone needs no gap", true, sideways.fits(0, 1));
        }
        LockRuns beside = lock(5, 3);
        beside.ship(2, 1, 0, 0, 1);
        beside.ship(2, 3, 0, 0, 2);
        beside.rule(1, 3);
        beside.plan();
        places("a wide one behind one at the right", beside, 0, 2, 3, 0);
        beside.rule(2, 3);
        CHECK.due("the same with too large a gap", false, beside.fits(0, 3));
        LockRuns lock = lock(8, 1);
        lock.ship(4, 1, 0, 0, 2);
        lock.ship(4, 1, 0, 0, 2);
        CHECK.due("without a gap", true, lock.fits(0, 3));
        lock.rule(1, 3);
        CHECK.due("with one", false, lock.fits(0, 3));
        lock.rule(0, 3);
        CHECK.due("without it again", true, lock.fits(0, 3));
    }

    private static void theFirstWayCounts() {
        LockRuns lock = lock(5, 3);
        lock.ship(3, 2, 0, 0, 0);
        lock.ship(3, 1, 0, 0, 1);
        lock.ship(2, 3, 0, 0, 2);
        CHECK.due("three that fill the chamber", true, lock.fits(0, 7));
        lock.plan();
        places("three that fill the chamber", lock, 0, 0, 0, 2, 3, 0);
        LockRuns moved = lock(8, 2);
        moved.ship(1, 1, 0, 0, 2);
        moved.ship(7, 2, 0, 0, 2);
        moved.ship(1, 1, 0, 0, 2);
        moved.plan();
        places("the lesser x ahead", moved, 0, 0, 1, 0, 0, 1);
        LockRuns aside = lock(2, 3);
        aside.ship(1, 1, 0, 0, 2);
        aside.ship(2, 2, 0, 0, 0);
        aside.plan();
        places("the lesser x ahead of the lesser y", aside, 0, 2, 0, 0);
        LockRuns behind = lock(5, 1);
        behind.ship(2, 1, 0, 0, 2);
        behind.ship(2, 1, 0, 0, 2);
        behind.rule(1, 3);
        behind.plan();
        places("behind a gap", behind, 0, 0, 3, 0);
        LockRuns apart = lock(4, 1);
        apart.ship(3, 1, 0, 0, 2);
        apart.ship(3, 1, 0, 0, 2);
        apart.plan();
        places("in runs of their own", apart, 0, 0, 0, 0);
    }

    /** The x and y that are due for each ship. */
    private static void places(String why, LockRuns lock, int... want) {
        for (int ship = 0; ship * 2 < want.length; ship++) {
            CHECK.due(why + ": of(" + ship + ", 3)", want[2 * ship], lock.of(ship, 3));
            CHECK.due(why + ": of(" + ship + ", 4)", want[2 * ship + 1], lock.of(ship, 4));
        }
    }

    private static void fitsKnowsNoDirection() {
        LockRuns lock = lock(8, 1);
        lock.ship(4, 1, 0, 0, 2);
        lock.ship(4, 1, 900, 1, 2);
        CHECK.due("ships of two directions", true, lock.fits(0, 3));
        lock.closed(0, 0, 10000);
        CHECK.due("in a closed chamber", true, lock.fits(0, 3));
    }

    private static void fitsIsRefused() {
        LockRuns lock = lock(8, 3);
        lock.ship(1, 1, 0, 0, 2);
        lock.ship(1, 1, 0, 0, 2);
        for (int chamber : new int[] {-1, 1, 2, Integer.MIN_VALUE, Integer.MAX_VALUE}) {
            CHECK.refused("fits(" + chamber + ", 0)", Check.ARGUMENT,
                    () -> lock.fits(chamber, 0) ? 1 : 0);
        }
        for (int ships : new int[] {4, 5, 16, -1, Integer.MIN_VALUE, Integer.MAX_VALUE}) {
            CHECK.refused("fits(0, " + ships + ")", Check.ARGUMENT,
                    () -> lock.fits(0, ships) ? 1 : 0);
        }
        CHECK.due("fits(0, 3)", true, lock.fits(0, 3));
        CHECK.due("fits makes no plan", 0, lock.count(3));
    }

    private static void homeIsTheFirstChamber() {
        LockRuns lock = new LockRuns();
        lock.ship(3, 1, 0, 0, 2);
        lock.ship(2, 2, 0, 0, 2);
        lock.ship(2, 1, 0, 0, 1);
        lock.ship(8, 3, 0, 0, 2);
        CHECK.due("home(0) without chambers", -1, lock.home(0));
        lock.chamber(2, 1, 10);
        lock.chamber(4, 2, 10);
        lock.rule(3, 0);
        CHECK.due("home(0)", 1, lock.home(0));
        CHECK.due("home(1)", 1, lock.home(1));
        CHECK.due("home(2)", 0, lock.home(2));
        CHECK.due("home(3)", -1, lock.home(3));
        for (int ship : new int[] {-1, 4, Integer.MIN_VALUE, Integer.MAX_VALUE}) {
            CHECK.refused("home(" + ship + ")", Check.INDEX, () -> lock.home(ship));
        }
        CHECK.due("home makes no plan", 0, lock.count(3));
    }
}
