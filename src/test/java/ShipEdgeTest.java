/** The edges that the document names for ships: Terms, promises 3 and 11. */
public final class ShipEdgeTest {
    private static final Check CHECK = new Check("ShipEdgeTest");

    public static void main(String[] args) {
        thereAreFourShipsAtMost();
        aFifthShipIsRefused();
        lengthsGoFromOneToEight();
        widthsGoFromOneToThree();
        arrivalsGoFromNoughtToAThousand();
        thereAreTwoDirections();
        thereAreThreeSides();
        atTheLeftYIsNought();
        atTheRightYAndWidthAreTheChambers();
        eitherSideIsFree();
        homeIsTheFirstChamberThatFits();
        homeMayBeNone();
        homeNeedsAShip();
        CHECK.end();
    }

    private static void thereAreFourShipsAtMost() {
        CHECK.sentence("SHIPS 0, 1, .. (4 at most)");
        LockRuns lock = Locks.one(8, 3, 10);
        for (int ship = 0; ship < 4; ship++) {
            int next = ship;
            CHECK.refused("home(" + ship + ") too early", Check.INDEX, () -> lock.home(next));
            CHECK.refused("fits of bit " + ship + " too early", Check.ARGUMENT,
                    () -> lock.fits(0, 1 << next) ? 1 : 0);
            CHECK.due("the number of ship " + ship, ship, lock.ship(2, 1, ship, 0, 2));
            CHECK.due("count(1)", ship + 1, lock.count(1));
            CHECK.due("home(" + ship + ")", 0, lock.home(ship));
            CHECK.due("fits of all", true, lock.fits(0, (1 << ship + 1) - 1));
        }
        CHECK.refused("home(4)", Check.INDEX, () -> lock.home(4));
        CHECK.refused("fits(0, 16)", Check.ARGUMENT, () -> lock.fits(0, 16) ? 1 : 0);
        CHECK.due("plan() of four", 6, lock.plan());
    }

    private static void aFifthShipIsRefused() {
        CHECK.sentence("IllegalStateException if there are 4.");
        LockRuns lock = Locks.one(8, 1, 10);
        for (int ship = 0; ship < 4; ship++) {
            lock.ship(8, 1, 10 * ship, ship % 2, 2);
        }
        lock.plan();
        String before = Check.state(lock);
        for (int time = 0; time < 3; time++) {
            CHECK.refused("ship(1, 1, 0, 0, 0)", Check.STATE, () -> lock.ship(1, 1, 0, 0, 0));
        }
        CHECK.due("all that is told behind it", before, Check.state(lock));
        CHECK.due("plan() behind it", 0, lock.plan());
    }

    private static void lengthsGoFromOneToEight() {
        CHECK.sentence("SHIPS .. have a LENGTH (1 .. 8)");
        for (int length = 1; length <= 8; length++) {
            LockRuns lock = Locks.one(length, 1, 10);
            CHECK.due("length " + length, 0, lock.ship(length, 1, 0, 0, 2));
            CHECK.due("home(0) of just its length", 0, lock.home(0));
        }
        for (int length : Locks.outside(1, 8)) {
            isRefused(length, 1, 0, 0, 0);
        }
    }

    private static void widthsGoFromOneToThree() {
        CHECK.sentence("SHIPS .. have .. a WIDTH (1 .. 3)");
        for (int width = 1; width <= 3; width++) {
            LockRuns lock = Locks.one(1, width, 10);
            CHECK.due("width " + width, 0, lock.ship(1, width, 0, 0, 2));
            CHECK.due("home(0) of just its width", 0, lock.home(0));
        }
        for (int width : Locks.outside(1, 3)) {
            isRefused(1, width, 0, 0, 0);
        }
    }

    private static void arrivalsGoFromNoughtToAThousand() {
        CHECK.sentence("the time at which they ARRIVE (0 .. 1000)");
        for (int arrives : new int[] {0, 1, 999, 1000}) {
            LockRuns lock = Locks.one(8, 1, 60);
            CHECK.due("arriving at " + arrives, 0, Locks.longShip(lock, arrives, Locks.UP));
            CHECK.due("plan()", 0, lock.plan());
            CHECK.due("of(0, 2)", arrives, lock.of(0, 2));
        }
        for (int arrives : Locks.outside(0, 1000)) {
            isRefused(1, 1, arrives, 0, 0);
        }
    }

    private static void thereAreTwoDirections() {
        CHECK.sentence("a DIRECTION (0: from level 0 to 1, 1: from 1 to 0)");
        for (int direction = 0; direction <= 1; direction++) {
            LockRuns lock = Locks.narrow(9);
            CHECK.due("direction " + direction, 0, Locks.longShip(lock, 0, direction));
            CHECK.due("plan()", 9 * direction, lock.plan());
            CHECK.due("run(0, 0, 1)", direction, lock.run(0, 0, 1));
        }
        for (int direction : Locks.outside(0, 1)) {
            isRefused(1, 1, 0, direction, 0);
        }
    }

    private static void thereAreThreeSides() {
        CHECK.sentence("a SIDE: 0 at the left .., 1 at the right .., 2 either");
        for (int side = 0; side <= 2; side++) {
            LockRuns lock = Locks.one(8, 3, 10);
            CHECK.due("side " + side, 0, lock.ship(8, 1, 0, 0, side));
        }
        for (int side : Locks.outside(0, 2)) {
            isRefused(1, 1, 0, 0, side);
        }
    }

    private static void isRefused(int length, int width, int arrives, int direction, int side) {
        LockRuns lock = Locks.one(8, 3, 10);
        String call = "ship(" + length + ", " + width + ", " + arrives + ", " + direction + ", "
                + side + ")";
        CHECK.refused(call, Check.ARGUMENT,
                () -> lock.ship(length, width, arrives, direction, side));
        CHECK.due("count(1) behind " + call, 0, lock.count(1));
        CHECK.due("plan() behind " + call, 0, lock.plan());
        CHECK.due("the next ship's number", 0, lock.ship(1, 1, 0, 0, 0));
    }

    /** The y of a ship alone in a chamber, by the plan. */
    private static int y(int chamberWidth, int width, int side) {
        LockRuns lock = Locks.one(1, chamberWidth, 10);
        lock.ship(1, width, 0, Locks.UP, side);
        lock.plan();
        return lock.of(0, 4);
    }

    private static void atTheLeftYIsNought() {
        CHECK.sentence("0 at the left (its y is 0)");
        for (int width = 1; width <= 3; width++) {
            for (int chamber = width; chamber <= 3; chamber++) {
                CHECK.due("y of " + width + " in " + chamber, 0, y(chamber, width, Locks.LEFT));
            }
        }
        LockRuns lock = Locks.one(3, 3, 10);
        lock.ship(3, 1, 0, Locks.UP, Locks.LEFT);
        lock.ship(1, 1, 0, Locks.UP, Locks.LEFT);
        CHECK.due("two at the left side by side", false, lock.fits(0, 3));
    }

    private static void atTheRightYAndWidthAreTheChambers() {
        CHECK.sentence("1 at the right (its y and width are the chamber's width)");
        for (int width = 1; width <= 3; width++) {
            for (int chamber = width; chamber <= 3; chamber++) {
                CHECK.due("y of " + width + " in " + chamber, chamber - width,
                        y(chamber, width, Locks.RIGHT));
            }
        }
        LockRuns lock = Locks.one(3, 3, 10);
        lock.ship(3, 1, 0, Locks.UP, Locks.RIGHT);
        lock.ship(1, 1, 0, Locks.UP, Locks.RIGHT);
        CHECK.due("two at the right side by side", false, lock.fits(0, 3));
        LockRuns wide = Locks.one(2, 3, 10);
        wide.ship(2, 2, 0, Locks.UP, Locks.RIGHT);
        wide.ship(2, 2, 0, Locks.UP, Locks.LEFT);
        wide.ship(2, 1, 0, Locks.UP, Locks.LEFT);
        CHECK.due("2 at the right and 2 at the left of 3", false, wide.fits(0, 3));
        CHECK.due("2 at the right and 1 at the left of 3", true, wide.fits(0, 5));
    }

    private static void eitherSideIsFree() {
        CHECK.sentence("2 either");
        for (int width = 1; width <= 3; width++) {
            for (int chamber = width; chamber <= 3; chamber++) {
                CHECK.due("y of " + width + " in " + chamber, 0, y(chamber, width, Locks.EITHER));
            }
        }
        LockRuns lock = Locks.one(2, 3, 10);
        lock.ship(2, 1, 0, Locks.UP, Locks.LEFT);
        lock.ship(2, 1, 0, Locks.UP, Locks.RIGHT);
        lock.ship(2, 1, 0, Locks.UP, Locks.EITHER);
        CHECK.due("plan() of one run", 0, lock.plan());
        CHECK.due("y between the two others", 1, lock.of(2, 4));
    }

    private static void homeIsTheFirstChamberThatFits() {
        CHECK.sentence("A chamber that a ship would FIT into alone: the first one");
        for (int first = 1; first <= 8; first++) {
            LockRuns lock = Locks.one(first, 2, 10);
            lock.chamber(5, 2, 1);
            lock.ship(5, 2, 0, 0, 1);
            lock.rule(3, 0);
            CHECK.due("home(0) of 5 in " + first + " and 5", first < 5 ? 1 : 0, lock.home(0));
        }
        LockRuns closed = Locks.two(4, 1, 10);
        closed.ship(4, 1, 0, 0, 2);
        closed.ship(4, 1, 0, 0, 2);
        closed.closed(0, 0, 10000);
        closed.plan();
        CHECK.due("home(0) of a closed chamber", 0, closed.home(0));
        CHECK.due("home(1) beside another ship", 0, closed.home(1));
        CHECK.due("the plan stays", 1, closed.count(3));
    }

    private static void homeMayBeNone() {
        CHECK.sentence("NONE.");
        LockRuns lock = new LockRuns();
        lock.ship(5, 2, 0, 0, 2);
        CHECK.due("home(0) without a chamber", -1, lock.home(0));
        lock.chamber(4, 3, 10);
        CHECK.due("home(0) with a shorter one", -1, lock.home(0));
        lock.chamber(8, 1, 10);
        CHECK.due("home(0) with a narrower one too", -1, lock.home(0));
    }

    private static void homeNeedsAShip() {
        CHECK.sentence("home: IndexOutOfBoundsException if there is no such ship.");
        LockRuns lock = Locks.two(8, 3, 10);
        for (int ships = 0; ships <= 4; ships++) {
            for (int ship : new int[] {-1, ships, 4, 5, 31, 32, 33, Integer.MIN_VALUE,
                Integer.MAX_VALUE}) {
                CHECK.refused("home(" + ship + ") of " + ships, Check.INDEX,
                        () -> lock.home(ship));
            }
            for (int ship = 0; ship < ships; ship++) {
                CHECK.due("home(" + ship + ") of " + ships, 0, lock.home(ship));
            }
            if (ships < 4) {
                lock.ship(1, 1, 0, 0, 0);
            }
        }
    }
}
