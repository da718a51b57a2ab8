import java.util.ArrayList;
import java.util.List;
import java.util.function.Consumer;
import java.util.function.ToIntFunction;

/**
 * What the document says of all calls: what is told makes the plan void; an answer of false and
 * exceptions change nothing; of several exceptions the one told first is thrown.
 */
public final class RefusalTest {
    private static final Check CHECK = new Check("RefusalTest");

    /** A call that is refused, and the answer that is due. */
    private record Refused(String call, String want, ToIntFunction<LockRuns> asking) { }

    public static void main(String[] args) {
        whatIsToldMakesThePlanVoid();
        whatIsAskedLeavesThePlan();
        refusedCallsChangeNothingInANewObject();
        refusedCallsChangeNothingWithOneOfEach();
        refusedCallsChangeNothingWithAPlan();
        refusedCallsChangeNothingWhereThereIsNoPlan();
        refusedCallsChangeNothingInAFullOne();
        chamberRefusesNumbersAheadOfThePlace();
        shipRefusesNumbersAheadOfThePlace();
        ofRefusesTheShipAheadOfThePlan();
        runRefusesTheChamberAheadOfThePlan();
        lateRefusesShipThenTimeThenPlan();
        rateRefusesNumbersAheadOfTheDivisor();
        CHECK.end();
    }

    private static void nothing(LockRuns lock) {
        // A new object as it is.
    }

    private static void oneOfEach(LockRuns lock) {
        lock.chamber(8, 2, 10);
        lock.ship(4, 1, 3, Locks.UP, 2);
        lock.closed(0, 5, 9);
        lock.rule(1, 2);
    }

    private static void onePlanned(LockRuns lock) {
        oneOfEach(lock);
        lock.ship(5, 1, 3, Locks.UP, 0);
        lock.plan();
    }

    private static void noPlan(LockRuns lock) {
        oneOfEach(lock);
        lock.ship(1, 3, 3, Locks.UP, 2);
        lock.plan();
    }

    private static void full(LockRuns lock) {
        lock.chamber(8, 2, 10);
        lock.chamber(5, 3, 7);
        for (int ship = 0; ship < 4; ship++) {
            lock.ship(2 + ship / 2, 1 + ship % 2, 3 * ship, ship % 2, ship % 3);
        }
        for (int span = 0; span < 8; span++) {
            lock.closed(span % 2, 20 * span, 20 * span + 5);
        }
        lock.rule(1, 1);
        lock.plan();
    }

    private static void whatIsToldMakesThePlanVoid() {
        CHECK.sentence("What is told makes the plan void");
        isVoidBehind("chamber", lock -> lock.chamber(8, 3, 60));
        isVoidBehind("ship", lock -> lock.ship(1, 1, 1000, 1, 1));
        isVoidBehind("closed", lock -> lock.closed(0, 9999, 10000));
        isVoidBehind("rule", lock -> lock.rule(0, 0));
        isVoidBehind("rule with what was there", lock -> lock.rule(1, 2));
    }

    private static void isVoidBehind(String call, Consumer<LockRuns> telling) {
        LockRuns lock = new LockRuns();
        onePlanned(lock);
        CHECK.due("count(3) ahead of " + call, 1, lock.count(3));
        telling.accept(lock);
        CHECK.due("count(3) behind " + call, 0, lock.count(3));
        CHECK.due("count(6) behind " + call, -1, lock.count(6));
        CHECK.refused("of(0, 2) behind " + call, Check.STATE, () -> lock.of(0, 2));
        CHECK.refused("run(0, 0, 0) behind " + call, Check.STATE, () -> lock.run(0, 0, 0));
        CHECK.refused("late(0, 3) behind " + call, Check.STATE, () -> lock.late(0, 3));
        lock.plan();
        CHECK.due("count(3) behind plan()", 1, lock.count(3));
    }

    private static void whatIsAskedLeavesThePlan() {
        CHECK.sentence("What is told");
        LockRuns lock = new LockRuns();
        full(lock);
        String before = Check.state(lock);
        lock.fits(0, 15);
        lock.fits(1, 0);
        lock.home(3);
        lock.rate(7, 9);
        CHECK.due("the state behind asking", before, Check.state(lock));
        int waiting = lock.plan();
        CHECK.due("plan() again", waiting, lock.plan());
        CHECK.due("the state behind plan()", before, Check.state(lock));
        lock.rule(3, 1);
        lock.fits(0, 15);
        lock.rule(1, 1);
        lock.plan();
        CHECK.due("the state behind another gap and back", before, Check.state(lock));
    }

    private static void refusedCallsChangeNothingInANewObject() {
        CHECK.sentence("an answer of false and exceptions change nothing (a new object)");
        List<Refused> all = always();
        all.add(refused("closed(0,0,1)", "0", x -> x.closed(0, 0, 1) ? 1 : 0));
        all.add(refused("fits(0,0)", Check.ARGUMENT, x -> x.fits(0, 0) ? 1 : 0));
        all.add(refused("of(0,0)", Check.INDEX, x -> x.of(0, 0)));
        all.add(refused("run(0,0,0)", Check.INDEX, x -> x.run(0, 0, 0)));
        all.add(refused("late(0,0)", Check.INDEX, x -> x.late(0, 0)));
        all.add(refused("home(0)", Check.INDEX, x -> x.home(0)));
        changeNothing(RefusalTest::nothing, all);
    }

    private static void refusedCallsChangeNothingWithOneOfEach() {
        CHECK.sentence("an answer of false and exceptions change nothing (without a plan)");
        List<Refused> all = always();
        all.add(refused("closed(1,0,1)", "0", x -> x.closed(1, 0, 1) ? 1 : 0));
        all.add(refused("fits(0,2)", Check.ARGUMENT, x -> x.fits(0, 2) ? 1 : 0));
        all.add(refused("of(0,0)", Check.STATE, x -> x.of(0, 0)));
        all.add(refused("run(0,0,0)", Check.STATE, x -> x.run(0, 0, 0)));
        all.add(refused("late(0,9)", Check.STATE, x -> x.late(0, 9)));
        all.add(refused("home(1)", Check.INDEX, x -> x.home(1)));
        changeNothing(RefusalTest::oneOfEach, all);
    }

    private static void refusedCallsChangeNothingWithAPlan() {
        CHECK.sentence("an answer of false and exceptions change nothing (with a plan)");
        List<Refused> all = always();
        all.add(refused("of(2,0)", Check.INDEX, x -> x.of(2, 0)));
        all.add(refused("of(0,7)", Check.INDEX, x -> x.of(0, 7)));
        all.add(refused("run(1,0,0)", Check.INDEX, x -> x.run(1, 0, 0)));
        all.add(refused("run(0,0,3)", Check.INDEX, x -> x.run(0, 0, 3)));
        all.add(refused("late(2,9)", Check.INDEX, x -> x.late(2, 9)));
        all.add(refused("late(0,1001)", Check.ARGUMENT, x -> x.late(0, 1001)));
        all.add(refused("late(0,-1)", Check.ARGUMENT, x -> x.late(0, -1)));
        changeNothing(RefusalTest::onePlanned, all);
    }

    private static void refusedCallsChangeNothingWhereThereIsNoPlan() {
        CHECK.sentence("an answer of false and exceptions change nothing (there is no plan)");
        List<Refused> all = always();
        all.add(refused("of(1,0)", Check.STATE, x -> x.of(1, 0)));
        all.add(refused("run(0,0,0)", Check.STATE, x -> x.run(0, 0, 0)));
        all.add(refused("late(1,9)", Check.STATE, x -> x.late(1, 9)));
        changeNothing(RefusalTest::noPlan, all);
    }

    private static void refusedCallsChangeNothingInAFullOne() {
        CHECK.sentence("an answer of false and exceptions change nothing (a full object)");
        List<Refused> all = always();
        all.add(refused("chamber(8,3,1)", Check.STATE, x -> x.chamber(8, 3, 1)));
        all.add(refused("ship(1,1,0,0,0)", Check.STATE, x -> x.ship(1, 1, 0, 0, 0)));
        all.add(refused("closed(0,0,900)", "0", x -> x.closed(0, 0, 900) ? 1 : 0));
        all.add(refused("closed(1,0,900)", "0", x -> x.closed(1, 0, 900) ? 1 : 0));
        all.add(refused("late(3,1001)", Check.ARGUMENT, x -> x.late(3, 1001)));
        changeNothing(RefusalTest::full, all);
    }

    private static Refused refused(String call, String want, ToIntFunction<LockRuns> asking) {
        return new Refused(call, want.equals("0") ? want : "throws." + want, asking);
    }

    /** Calls that are refused whatever has been told. */
    private static List<Refused> always() {
        List<Refused> all = new ArrayList<>();
        int[][] chambers = {{0, 2, 9}, {9, 2, 9}, {7, 0, 9}, {7, 4, 9}, {7, 2, 0}, {7, 2, 61}};
        for (int[] c : chambers) {
            all.add(refused("chamber(" + c[0] + "," + c[1] + "," + c[2] + ")", Check.ARGUMENT,
                    x -> x.chamber(c[0], c[1], c[2])));
        }
        int[][] ships = {{0, 1, 5, 0, 2}, {9, 1, 5, 0, 2}, {2, 0, 5, 0, 2}, {2, 4, 5, 0, 2},
            {2, 1, -1, 0, 2}, {2, 1, 1001, 0, 2}, {2, 1, 5, -1, 2}, {2, 1, 5, 2, 2},
            {2, 1, 5, 0, -1}, {2, 1, 5, 0, 3}};
        for (int[] s : ships) {
            all.add(refused("ship(" + s[0] + "," + s[1] + "," + s[2] + "," + s[3] + "," + s[4]
                    + ")", Check.ARGUMENT, x -> x.ship(s[0], s[1], s[2], s[3], s[4])));
        }
        int[][] spans = {{-1, 0, 500}, {2, 0, 500}, {0, -1, 500}, {0, 0, 10001}, {0, 500, 500},
            {0, 500, 0}, {0, 10000, 10001}};
        for (int[] c : spans) {
            all.add(refused("closed(" + c[0] + "," + c[1] + "," + c[2] + ")", "0",
                    x -> x.closed(c[0], c[1], c[2]) ? 1 : 0));
        }
        int[][] rules = {{-1, 0}, {4, 0}, {0, -1}, {0, 4}, {-1, -1}, {4, 4}, {3, 4}, {4, 3}};
        for (int[] r : rules) {
            all.add(refused("rule(" + r[0] + "," + r[1] + ")", "0",
                    x -> x.rule(r[0], r[1]) ? 1 : 0));
        }
        all.add(refused("fits(2,0)", Check.ARGUMENT, x -> x.fits(2, 0) ? 1 : 0));
        all.add(refused("fits(-1,0)", Check.ARGUMENT, x -> x.fits(-1, 0) ? 1 : 0));
        all.add(refused("fits(0,16)", Check.ARGUMENT, x -> x.fits(0, 16) ? 1 : 0));
        all.add(refused("fits(0,-1)", Check.ARGUMENT, x -> x.fits(0, -1) ? 1 : 0));
        all.add(refused("of(4,0)", Check.INDEX, x -> x.of(4, 0)));
        all.add(refused("run(2,0,0)", Check.INDEX, x -> x.run(2, 0, 0)));
        all.add(refused("late(4,0)", Check.INDEX, x -> x.late(4, 0)));
        all.add(refused("late(-1,0)", Check.INDEX, x -> x.late(-1, 0)));
        all.add(refused("home(4)", Check.INDEX, x -> x.home(4)));
        all.add(refused("rate(1001,1)", Check.ARGUMENT, x -> x.rate(1001, 1)));
        all.add(refused("rate(1,0)", Check.ARITHMETIC, x -> x.rate(1, 0)));
        return all;
    }

    /**
     * Each call, alone and all of them, leaves what an object tells as it was, and what it tells
     * behind further calls is what its twin tells, which was never asked the refused ones.
     */
    private static void changeNothing(Consumer<LockRuns> told, List<Refused> calls) {
        LockRuns all = new LockRuns();
        told.accept(all);
        LockRuns twin = new LockRuns();
        told.accept(twin);
        String before = Check.state(twin);
        String later = later(twin);
        for (Refused one : calls) {
            LockRuns lock = new LockRuns();
            told.accept(lock);
            CHECK.due(one.call(), one.want(), Check.answer(() -> one.asking().applyAsInt(lock)));
            CHECK.due("the state behind " + one.call(), before, Check.state(lock));
            CHECK.due("what comes later behind " + one.call(), later, later(lock));
            CHECK.due(one.call() + " behind others", one.want(),
                    Check.answer(() -> one.asking().applyAsInt(all)));
        }
        CHECK.due("the state behind all of them", before, Check.state(all));
        CHECK.due("what comes later behind all of them", later, later(all));
    }

    /** What an object tells when more is told to it, or tried. */
    private static String later(LockRuns lock) {
        StringBuilder all = new StringBuilder();
        all.append(Check.answer(lock::plan));
        all.append(Check.answer(() -> lock.late(0, 11))).append(Check.state(lock));
        all.append(Check.answer(() -> lock.chamber(6, 2, 4)));
        all.append(Check.answer(() -> lock.ship(6, 1, 2, 1, 1)));
        all.append(Check.answer(() -> lock.closed(0, 30, 40) ? 1 : 0));
        all.append(Check.answer(lock::plan)).append(Check.state(lock));
        all.append(Check.answer(() -> lock.rule(0, 3) ? 1 : 0));
        all.append(Check.answer(lock::plan)).append(Check.state(lock));
        return all.toString();
    }

    private static void chamberRefusesNumbersAheadOfThePlace() {
        CHECK.sentence("Of several exceptions the one told first is thrown (chamber)");
        LockRuns lock = Locks.two(8, 3, 10);
        int[][] wrong = {{0, 1, 1}, {9, 1, 1}, {1, 0, 1}, {1, 4, 1}, {1, 1, 0}, {1, 1, 61},
            {0, 0, 0}, {9, 4, 61}};
        for (int[] w : wrong) {
            CHECK.refused("chamber(" + w[0] + ", " + w[1] + ", " + w[2] + ") as a third",
                    Check.ARGUMENT, () -> lock.chamber(w[0], w[1], w[2]));
        }
        CHECK.refused("chamber(1, 1, 1) as a third", Check.STATE, () -> lock.chamber(1, 1, 1));
    }

    private static void shipRefusesNumbersAheadOfThePlace() {
        CHECK.sentence("Of several exceptions the one told first is thrown (ship)");
        LockRuns lock = new LockRuns();
        for (int ship = 0; ship < 4; ship++) {
            lock.ship(1, 1, 0, 0, 0);
        }
        int[][] wrong = {{0, 1, 0, 0, 0}, {9, 1, 0, 0, 0}, {1, 0, 0, 0, 0}, {1, 4, 0, 0, 0},
            {1, 1, -1, 0, 0}, {1, 1, 1001, 0, 0}, {1, 1, 0, -1, 0}, {1, 1, 0, 2, 0},
            {1, 1, 0, 0, -1}, {1, 1, 0, 0, 3}, {0, 0, -1, -1, -1}};
        for (int[] w : wrong) {
            CHECK.refused("ship(" + w[0] + ", " + w[1] + ", " + w[2] + ", " + w[3] + ", " + w[4]
                    + ") as a fifth", Check.ARGUMENT,
                    () -> lock.ship(w[0], w[1], w[2], w[3], w[4]));
        }
        CHECK.refused("ship(1, 1, 0, 0, 0) as a fifth", Check.STATE,
                () -> lock.ship(1, 1, 0, 0, 0));
    }

    private static void ofRefusesTheShipAheadOfThePlan() {
        CHECK.sentence("Of several exceptions the one told first is thrown (of)");
        LockRuns lock = Locks.narrow(10);
        Locks.longShip(lock, 0, Locks.UP);
        CHECK.refused("of(-1, 0)", Check.INDEX, () -> lock.of(-1, 0));
        CHECK.refused("of(1, 0)", Check.INDEX, () -> lock.of(1, 0));
        CHECK.refused("of(0, -1)", Check.INDEX, () -> lock.of(0, -1));
        CHECK.refused("of(0, 7)", Check.INDEX, () -> lock.of(0, 7));
        CHECK.refused("of(0, 6)", Check.STATE, () -> lock.of(0, 6));
        CHECK.refused("of(0, 0)", Check.STATE, () -> lock.of(0, 0));
    }

    private static void runRefusesTheChamberAheadOfThePlan() {
        CHECK.sentence("Of several exceptions the one told first is thrown (run)");
        LockRuns lock = Locks.narrow(10);
        for (int k : new int[] {-1, 0, 1}) {
            CHECK.refused("run(-1, k, 0)", Check.INDEX, () -> lock.run(-1, k, 0));
            CHECK.refused("run(1, k, 0)", Check.INDEX, () -> lock.run(1, k, 0));
            CHECK.refused("run(0, k, -1)", Check.INDEX, () -> lock.run(0, k, -1));
            CHECK.refused("run(0, k, 3)", Check.INDEX, () -> lock.run(0, k, 3));
            CHECK.refused("run(0, k, 2)", Check.STATE, () -> lock.run(0, k, 2));
            CHECK.refused("run(0, k, 0)", Check.STATE, () -> lock.run(0, k, 0));
        }
    }

    private static void lateRefusesShipThenTimeThenPlan() {
        CHECK.sentence("Of several exceptions the one told first is thrown (late)");
        LockRuns lock = Locks.narrow(10);
        Locks.longShip(lock, 0, Locks.UP);
        for (int planned = 0; planned < 2; planned++) {
            for (int ship : new int[] {-1, 1, 4}) {
                for (int time : new int[] {-1, 0, 1000, 1001}) {
                    CHECK.refused("late(" + ship + ", " + time + ")", Check.INDEX,
                            () -> lock.late(ship, time));
                }
            }
            CHECK.refused("late(0, -1)", Check.ARGUMENT, () -> lock.late(0, -1));
            CHECK.refused("late(0, 1001)", Check.ARGUMENT, () -> lock.late(0, 1001));
            String want = planned == 0 ? "throws." + Check.STATE : "0";
            CHECK.due("late(0, 0)", want, Check.answer(() -> lock.late(0, 0)));
            lock.plan();
        }
    }

    private static void rateRefusesNumbersAheadOfTheDivisor() {
        CHECK.sentence("Of several exceptions the one told first is thrown (rate)");
        LockRuns lock = new LockRuns();
        CHECK.refused("rate(-1, 0)", Check.ARGUMENT, () -> lock.rate(-1, 0));
        CHECK.refused("rate(1001, 0)", Check.ARGUMENT, () -> lock.rate(1001, 0));
        CHECK.refused("rate(0, 0)", Check.ARITHMETIC, () -> lock.rate(0, 0));
        CHECK.refused("rate(1000, 0)", Check.ARITHMETIC, () -> lock.rate(1000, 0));
    }
}
