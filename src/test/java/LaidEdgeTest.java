/** The edges that the document names for ships that are laid: Terms, promises 5 (GAP) and 7. */
public final class LaidEdgeTest {
    private static final Check CHECK = new Check("LaidEdgeTest");

    public static void main(String[] args) {
        xAndLengthAreNotAboveTheChambers();
        yAndWidthAreNotAboveTheChambers();
        sidesAreKeptBySeveral();
        alongTheChamberTheGapIsKept();
        acrossTheChamberTheGapIsKept();
        oneOfTheTwoWaysIsEnough();
        anyTwoAreClear();
        wallsNeedNoGap();
        theGapIsNoughtAtFirst();
        theGapGoesFromNoughtToThree();
        noShipsFit();
        fitsNeedsAChamber();
        fitsNeedsShips();
        theLesserXIsAhead();
        thenTheLesserYIsAhead();
        shipsGoByNumber();
        runsAreLaidApart();
        CHECK.end();
    }

    private static void xAndLengthAreNotAboveTheChambers() {
        CHECK.sentence("x and its length are not above the chamber's length");
        for (int chamber = 1; chamber <= 8; chamber++) {
            for (int length = 1; length <= 8; length++) {
                for (int side = 0; side <= 2; side++) {
                    LockRuns lock = Locks.one(chamber, 3, 10);
                    lock.ship(length, 2, 0, 0, side);
                    CHECK.due("length " + length + " in " + chamber, length <= chamber,
                            lock.fits(0, 1));
                }
            }
        }
    }

    private static void yAndWidthAreNotAboveTheChambers() {
        CHECK.sentence("y and its width not above the width");
        for (int chamber = 1; chamber <= 3; chamber++) {
            for (int width = 1; width <= 3; width++) {
                for (int side = 0; side <= 2; side++) {
                    LockRuns lock = Locks.one(8, chamber, 10);
                    lock.ship(8, width, 0, 0, side);
                    CHECK.due("width " + width + " in " + chamber + " at side " + side,
                            width <= chamber, lock.fits(0, 1));
                }
            }
        }
    }

    private static void sidesAreKeptBySeveral() {
        CHECK.sentence("its side is kept");
        for (int one = 0; one <= 2; one++) {
            for (int other = 0; other <= 2; other++) {
                LockRuns lock = Locks.one(4, 2, 10);
                lock.ship(4, 1, 0, 0, one);
                lock.ship(4, 1, 0, 0, other);
                boolean can = one != other || one == Locks.EITHER;
                CHECK.due("sides " + one + " and " + other, can, lock.fits(0, 3));
                LockRuns longer = Locks.one(8, 2, 10);
                longer.ship(4, 1, 0, 0, one);
                longer.ship(4, 1, 0, 0, other);
                CHECK.due("sides " + one + " and " + other + " in a longer chamber", true,
                        longer.fits(0, 3));
            }
        }
        LockRuns middle = Locks.one(4, 3, 10);
        middle.ship(4, 1, 0, 0, Locks.LEFT);
        middle.ship(4, 1, 0, 0, Locks.RIGHT);
        middle.ship(1, 1, 0, 0, Locks.LEFT);
        middle.ship(1, 1, 0, 0, Locks.RIGHT);
        CHECK.due("the middle is not the left", false, middle.fits(0, 7));
        CHECK.due("the middle is not the right", false, middle.fits(0, 11));
    }

    private static void alongTheChamberTheGapIsKept() {
        CHECK.sentence("x, its length and the GAP .. are not above the other's x");
        for (int gap = 0; gap <= 3; gap++) {
            for (int chamber = 1; chamber <= 8; chamber++) {
                for (int one = 1; one <= 8; one++) {
                    for (int other = 1; other <= 8; other++) {
                        LockRuns lock = Locks.one(chamber, 1, 10);
                        lock.rule(gap, 3);
                        lock.ship(one, 1, 0, 0, 2);
                        lock.ship(other, 1, 0, 0, 2);
                        CHECK.due(one + " and " + other + " along " + chamber + ", gap " + gap,
                                one + gap + other <= chamber, lock.fits(0, 3));
                    }
                }
            }
        }
    }

    private static void acrossTheChamberTheGapIsKept() {
        CHECK.sentence("or y, its width and the GAP not above the other's y");
        for (int gap = 0; gap <= 3; gap++) {
            for (int chamber = 1; chamber <= 3; chamber++) {
                for (int one = 1; one <= 3; one++) {
                    for (int other = 1; other <= 3; other++) {
                        LockRuns lock = Locks.one(2, chamber, 10);
                        lock.rule(gap, 3);
                        lock.ship(2, one, 0, 0, 2);
                        lock.ship(2, other, 0, 0, 2);
                        CHECK.due(one + " and " + other + " across " + chamber + ", gap " + gap,
                                one + gap + other <= chamber, lock.fits(0, 3));
                    }
                }
            }
        }
        LockRuns turned = Locks.one(2, 3, 10);
        turned.ship(2, 1, 0, 0, Locks.RIGHT);
        turned.ship(2, 1, 0, 0, Locks.LEFT);
        turned.rule(1, 3);
        CHECK.due("the lesser number at the right", true, turned.fits(0, 3));
        turned.rule(2, 3);
        CHECK.due("the lesser number at the right, gap 2", false, turned.fits(0, 3));
    }

    private static void oneOfTheTwoWaysIsEnough() {
        CHECK.sentence("of any two one stands clear of the other");
        // Corner to corner there is no gap along and none across.
        LockRuns corner = Locks.one(2, 2, 10);
        corner.ship(1, 1, 0, 0, Locks.LEFT);
        corner.ship(1, 1, 0, 0, Locks.RIGHT);
        CHECK.due("corner to corner without a gap", true, corner.fits(0, 3));
        corner.rule(1, 3);
        CHECK.due("corner to corner with a gap", false, corner.fits(0, 3));
        LockRuns along = Locks.one(3, 2, 10);
        along.ship(1, 1, 0, 0, Locks.LEFT);
        along.ship(1, 1, 0, 0, Locks.RIGHT);
        along.rule(1, 3);
        CHECK.due("a gap along alone", true, along.fits(0, 3));
        LockRuns across = Locks.one(1, 3, 10);
        across.ship(1, 1, 0, 0, Locks.LEFT);
        across.ship(1, 1, 0, 0, Locks.RIGHT);
        across.rule(1, 3);
        CHECK.due("a gap across alone", true, across.fits(0, 3));
        across.rule(2, 3);
        CHECK.due("too small a gap across alone", false, across.fits(0, 3));
    }

    private static void anyTwoAreClear() {
        CHECK.sentence("of any two");
        for (int ships = 1; ships <= 4; ships++) {
            for (int gap = 0; gap <= 3; gap++) {
                for (int chamber = 1; chamber <= 8; chamber++) {
                    LockRuns lock = Locks.one(chamber, 1, 10);
                    lock.rule(gap, 3);
                    for (int ship = 0; ship < ships; ship++) {
                        lock.ship(1, 1, 0, 0, ship % 3);
                    }
                    CHECK.due(ships + " along " + chamber + ", gap " + gap,
                            ships + (ships - 1) * gap <= chamber,
                            lock.fits(0, (1 << ships) - 1));
                }
            }
        }
        LockRuns full = Locks.one(4, 3, 10);
        full.ship(4, 1, 0, 0, 2);
        full.ship(4, 1, 0, 0, 2);
        full.ship(4, 1, 0, 0, 2);
        full.ship(1, 1, 0, 0, 2);
        CHECK.due("three fill a chamber", true, full.fits(0, 7));
        CHECK.due("one more does not fit", false, full.fits(0, 15));
    }

    private static void wallsNeedNoGap() {
        CHECK.sentence("Ships FIT if they can be laid.");
        LockRuns lock = Locks.one(8, 3, 10);
        lock.ship(8, 3, 0, 0, 0);
        lock.rule(3, 3);
        CHECK.due("one that fills the chamber, with the greatest gap", true, lock.fits(0, 1));
        LockRuns two = Locks.one(8, 3, 10);
        two.ship(3, 3, 0, 0, 2);
        two.ship(2, 3, 0, 0, 2);
        two.rule(3, 3);
        CHECK.due("two with the greatest gap between", true, two.fits(0, 3));
    }

    private static void theGapIsNoughtAtFirst() {
        CHECK.sentence("GAP (0 .. 3; 0 at first)");
        LockRuns lock = Locks.one(8, 1, 10);
        CHECK.due("count(4)", 0, lock.count(4));
        lock.ship(4, 1, 0, 0, 2);
        lock.ship(4, 1, 0, 0, 2);
        CHECK.due("4 and 4 along 8", true, lock.fits(0, 3));
        CHECK.due("plan() of one run", 0, lock.plan());
    }

    private static void theGapGoesFromNoughtToThree() {
        CHECK.sentence("GAP and OVER: true; false if one is not 0 .. 3. (GAP)");
        LockRuns lock = Locks.one(8, 1, 10);
        lock.ship(3, 1, 0, 0, 2);
        lock.ship(3, 1, 0, 0, 2);
        // There and back, so that nothing of an earlier gap stays.
        for (int gap : new int[] {0, 1, 2, 3, 2, 1, 0, 3, 0, 2}) {
            CHECK.due("rule(" + gap + ", 3)", true, lock.rule(gap, 3));
            CHECK.due("count(4)", gap, lock.count(4));
            CHECK.due("3 and 3 along 8 with gap " + gap, gap <= 2, lock.fits(0, 3));
            CHECK.due("plan() with gap " + gap, gap <= 2 ? 0 : 20, lock.plan());
        }
        for (int gap : Locks.outside(0, 3)) {
            CHECK.due("rule(" + gap + ", 0)", false, lock.rule(gap, 0));
            CHECK.due("count(4)", 2, lock.count(4));
            CHECK.due("count(5)", 3, lock.count(5));
            CHECK.due("count(3): the plan stays", 1, lock.count(3));
        }
    }

    private static void noShipsFit() {
        CHECK.sentence("Whether these ships (as bits) FIT in a chamber.");
        LockRuns lock = Locks.one(1, 1, 1);
        CHECK.due("fits(0, 0) without ships", true, lock.fits(0, 0));
        lock.ship(8, 3, 0, 0, 2);
        lock.ship(1, 1, 0, 1, 2);
        lock.ship(8, 3, 0, 0, 2);
        lock.ship(1, 1, 0, 0, 2);
        CHECK.due("fits(0, 0) with too large ones", true, lock.fits(0, 0));
        for (int set = 1; set < 16; set++) {
            CHECK.due("fits(0, " + set + ")", set == 2 || set == 8, lock.fits(0, set));
        }
    }

    private static void fitsNeedsAChamber() {
        CHECK.sentence("IllegalArgumentException if there is no such chamber");
        LockRuns lock = new LockRuns();
        lock.ship(1, 1, 0, 0, 0);
        for (int chambers = 0; chambers <= 2; chambers++) {
            for (int chamber : new int[] {-1, chambers, 2, 3, Integer.MIN_VALUE,
                Integer.MAX_VALUE}) {
                for (int set : new int[] {0, 1, 2, -1}) {
                    CHECK.refused("fits(" + chamber + ", " + set + ") of " + chambers,
                            Check.ARGUMENT, () -> lock.fits(chamber, set) ? 1 : 0);
                }
            }
            for (int chamber = 0; chamber < chambers; chamber++) {
                CHECK.due("fits(" + chamber + ", 1)", true, lock.fits(chamber, 1));
            }
            if (chambers < 2) {
                lock.chamber(1, 1, 1);
            }
        }
    }

    private static void fitsNeedsShips() {
        CHECK.sentence("or a bit is no ship.");
        LockRuns lock = Locks.one(8, 3, 10);
        for (int ships = 0; ships <= 4; ships++) {
            for (int bit = 0; bit < 32; bit++) {
                int set = 1 << bit;
                int all = set | (1 << ships) - 1;
                if (bit < ships) {
                    CHECK.due("fits of bit " + bit, true, lock.fits(0, set));
                } else {
                    CHECK.refused("fits of bit " + bit + " of " + ships, Check.ARGUMENT,
                            () -> lock.fits(0, set) ? 1 : 0);
                    CHECK.refused("fits of all and bit " + bit, Check.ARGUMENT,
                            () -> lock.fits(0, all) ? 1 : 0);
                }
            }
            if (ships < 4) {
                lock.ship(1, 1, 0, 0, 2);
            }
        }
    }

    /** The x and y that are due for each ship of a plan of one run. */
    private static void places(String why, LockRuns lock, int... want) {
        lock.plan();
        for (int ship = 0; ship * 2 < want.length; ship++) {
            CHECK.due(why + ": of(" + ship + ", 3)", want[2 * ship], lock.of(ship, 3));
            CHECK.due(why + ": of(" + ship + ", 4)", want[2 * ship + 1], lock.of(ship, 4));
        }
    }

    private static void theLesserXIsAhead() {
        CHECK.sentence("Of all ways the first counts: .. the lesser x ahead");
        for (int gap = 0; gap <= 3; gap++) {
            LockRuns lock = Locks.one(8, 1, 10);
            lock.ship(2, 1, 0, 0, 2);
            lock.ship(1, 1, 0, 0, 2);
            lock.rule(gap, 3);
            places("gap " + gap, lock, 0, 0, 2 + gap, 0);
            LockRuns full = Locks.one(5 + gap, 1, 10);
            full.ship(2, 1, 0, 0, 2);
            full.ship(3, 1, 0, 0, 2);
            full.rule(gap, 3);
            places("gap " + gap + " up to the wall", full, 0, 0, 2 + gap, 0);
        }
        LockRuns later = Locks.one(8, 2, 10);
        later.ship(1, 2, 0, 0, 2);
        later.ship(3, 1, 0, 0, 2);
        later.ship(2, 1, 0, 0, 2);
        later.ship(2, 2, 0, 0, 2);
        places("four in a row", later, 0, 0, 1, 0, 1, 1, 4, 0);
        // Ship 0 at the lesser x has to be at the greater y.
        LockRuns aside = Locks.one(2, 3, 10);
        aside.ship(1, 1, 0, 0, 2);
        aside.ship(2, 2, 0, 0, 0);
        places("x 0 and y 2 ahead of x 1 and y 0", aside, 0, 2, 0, 0);
    }

    private static void thenTheLesserYIsAhead() {
        CHECK.sentence("then the lesser y");
        LockRuns lock = Locks.one(2, 3, 10);
        lock.ship(1, 1, 0, 0, 2);
        lock.ship(1, 1, 0, 0, 2);
        lock.ship(1, 1, 0, 0, 2);
        lock.ship(1, 1, 0, 0, 2);
        places("four of one cell", lock, 0, 0, 0, 1, 0, 2, 1, 0);
        LockRuns gap = Locks.one(1, 3, 10);
        gap.ship(1, 1, 0, 0, 2);
        gap.ship(1, 1, 0, 0, 2);
        gap.rule(1, 3);
        places("a gap across", gap, 0, 0, 0, 2);
        LockRuns forced = Locks.one(1, 3, 10);
        forced.ship(1, 1, 0, 0, 2);
        forced.ship(1, 1, 0, 0, 0);
        places("the least y that leaves room for the other", forced, 0, 1, 0, 0);
    }

    private static void shipsGoByNumber() {
        CHECK.sentence("ships by number");
        // Ship 0's y counts ahead of ship 1's x.
        LockRuns lock = Locks.one(2, 2, 10);
        lock.ship(1, 1, 0, 0, Locks.EITHER);
        lock.ship(1, 1, 0, 0, Locks.LEFT);
        places("ship 0 at the least place, ship 1 behind it", lock, 0, 0, 1, 0);
        LockRuns turned = Locks.one(2, 2, 10);
        turned.ship(1, 1, 0, 0, Locks.LEFT);
        turned.ship(1, 1, 0, 0, Locks.EITHER);
        places("ship 1 beside ship 0", turned, 0, 0, 0, 1);
        LockRuns large = Locks.one(8, 1, 10);
        large.ship(1, 1, 0, 0, 2);
        large.ship(7, 1, 0, 0, 2);
        places("the small one ahead", large, 0, 0, 1, 0);
        LockRuns small = Locks.one(8, 1, 10);
        small.ship(7, 1, 0, 0, 2);
        small.ship(1, 1, 0, 0, 2);
        places("the large one ahead", small, 0, 0, 7, 0);
    }

    private static void runsAreLaidApart() {
        CHECK.sentence("LAID are ships in a chamber");
        LockRuns lock = Locks.one(8, 1, 10);
        lock.ship(4, 1, 0, Locks.UP, 2);
        lock.ship(4, 1, 10, Locks.DOWN, 2);
        lock.ship(4, 1, 0, Locks.UP, 2);
        lock.ship(4, 1, 10, Locks.DOWN, 2);
        places("two runs of two ships", lock, 0, 0, 0, 0, 4, 0, 4, 0);
        CHECK.due("run(0, 0, 2)", 5, lock.run(0, 0, 2));
        CHECK.due("run(0, 1, 2)", 10, lock.run(0, 1, 2));
    }
}
