import java.util.Random;

/** All promises: the same runs of calls on LockRuns and on Model, with a fixed seed. */
public final class ModelTest {
    private static final int RUNS = 3000;
    private static final int LONG_RUNS = 25;
    private static final Check CHECK = new Check("ModelTest");

    private final Random random;
    private final LockRuns lock = new LockRuns();
    private final Model model = new Model();
    private final StringBuilder told = new StringBuilder();
    // Times close to one another make ties and overtaking, times far apart reach the edges.
    private final int lastTime;
    private final int longestFill;
    private final int longestShip;
    // Long ships for a narrow chamber, wide ones for a short one, all of one direction: these
    // can't go together, so that one overtakes the other.
    private final boolean apart;
    private int calls;

    private ModelTest(int seed) {
        random = new Random(seed);
        lastTime = new int[] {3, 12, 40, 1000}[random.nextInt(4)];
        longestFill = new int[] {2, 10, 60}[random.nextInt(3)];
        longestShip = new int[] {2, 4, 8}[random.nextInt(3)];
        apart = random.nextInt(4) == 0;
        if (apart) {
            tellApart();
        }
    }

    private void tellApart() {
        chamber(8, 1, some(1, longestFill));
        chamber(1, 3, some(1, longestFill));
        closed(random.nextInt(2), 0, lastTime + some(0, longestFill));
        rule(0, random.nextInt(4));
        for (int ships = 2 + random.nextInt(3); ships > 0; ships--) {
            ship();
        }
        plan();
    }

    public static void main(String[] args) {
        for (int seed = 0; seed < RUNS; seed++) {
            new ModelTest(seed).goShort();
        }
        CHECK.sentence("An object is used for at most 512 calls after it has been made");
        for (int seed = 0; seed < LONG_RUNS; seed++) {
            new ModelTest(-1 - seed).goWhole();
        }
        CHECK.end();
    }

    /** Few things are told, and then all is asked for, so that runs differ much. */
    private void goShort() {
        int tellings = 8 + random.nextInt(14);
        for (int telling = 0; telling < tellings; telling++) {
            tell();
            if (random.nextInt(5) == 0 && calls < 250) {
                askForAll();
            }
        }
        plan();
        askForAll();
    }

    /** All 512 calls, the last one answered as well as the first. */
    private void goWhole() {
        while (calls < 512) {
            if (random.nextInt(8) == 0) {
                tell();
            } else {
                ask();
            }
        }
    }

    private void tell() {
        switch (random.nextInt(12)) {
            case 0 -> chamber();
            case 1, 2, 3 -> ship();
            case 4, 5 -> closed();
            case 6 -> rule();
            case 7, 8 -> plan();
            case 9, 10 -> late();
            default -> rate();
        }
    }

    private void same(String call, String want, String got) {
        calls++;
        told.append(' ').append(call);
        CHECK.due(want.equals(got) ? call : told.toString(), want, got);
    }

    private void alike(String call, String want, String got) {
        calls++;
        CHECK.due(want.equals(got) ? call : told + " " + call, want, got);
    }

    /** A number of this span, and now and then one just outside it, or far. */
    private int some(int least, int most) {
        int dice = random.nextInt(60);
        if (dice == 0) {
            return least - 1;
        }
        if (dice == 1) {
            return most + 1;
        }
        if (dice == 2) {
            return random.nextInt();
        }
        return least + random.nextInt(most - least + 1);
    }

    private void chamber() {
        int l = random.nextBoolean() ? longestShip : some(1, 8);
        int w = some(1, 3);
        chamber(l, w, some(1, longestFill));
    }

    private void chamber(int l, int w, int f) {
        same("chamber(" + l + "," + w + "," + f + ")", Check.answer(() -> model.chamber(l, w, f)),
                Check.answer(() -> lock.chamber(l, w, f)));
    }

    private void ship() {
        int a = some(0, lastTime);
        if (!apart) {
            ship(some(1, longestShip), some(1, random.nextBoolean() ? 1 : 3), a, some(0, 1));
        } else if (random.nextBoolean()) {
            ship(some(2, 8), 1, a, 0);
        } else {
            ship(1, some(2, 3), a, 0);
        }
    }

    private void ship(int l, int w, int a, int d) {
        int s = some(0, 2);
        same("ship(" + l + "," + w + "," + a + "," + d + "," + s + ")",
                Check.answer(() -> model.ship(l, w, a, d, s)),
                Check.answer(() -> lock.ship(l, w, a, d, s)));
    }

    private void closed() {
        int c = some(0, 1);
        int from = some(0, lastTime);
        int to = random.nextInt(20) == 0 ? some(9990, 10000) : from + some(0, longestFill * 2);
        closed(c, from, to);
    }

    private void closed(int c, int from, int to) {
        same("closed(" + c + "," + from + "," + to + ")",
                Check.answer(() -> model.closed(c, from, to) ? 1 : 0),
                Check.answer(() -> lock.closed(c, from, to) ? 1 : 0));
    }

    private void rule() {
        int gap = some(0, random.nextBoolean() ? 1 : 3);
        rule(gap, some(0, 3));
    }

    private void rule(int gap, int over) {
        same("rule(" + gap + "," + over + ")",
                Check.answer(() -> model.rule(gap, over) ? 1 : 0),
                Check.answer(() -> lock.rule(gap, over) ? 1 : 0));
    }

    private void plan() {
        same("plan()", Check.answer(model::plan), Check.answer(lock::plan));
    }

    private void late() {
        int ship = some(0, 3);
        int time = some(0, lastTime);
        same("late(" + ship + "," + time + ")", Check.answer(() -> model.late(ship, time)),
                Check.answer(() -> lock.late(ship, time)));
    }

    private void rate() {
        int runs = some(0, 1000);
        int minutes = some(0, random.nextBoolean() ? 3 : 1000);
        same("rate(" + runs + "," + minutes + ")", Check.answer(() -> model.rate(runs, minutes)),
                Check.answer(() -> lock.rate(runs, minutes)));
    }

    private void ask() {
        switch (random.nextInt(5)) {
            case 0 -> count(some(0, 7));
            case 1 -> home(some(0, 3));
            case 2 -> of(some(0, 3), some(0, 6));
            case 3 -> fits(some(0, 1), some(0, 15));
            default -> run(some(0, 1), some(0, 3), some(0, 2));
        }
    }

    private void askForAll() {
        for (int what = 0; what <= 7; what++) {
            count(what);
        }
        for (int ship = 0; ship < 4; ship++) {
            home(ship);
            for (int what = 0; what <= 6; what++) {
                of(ship, what);
            }
        }
        for (int chamber = 0; chamber < 2; chamber++) {
            for (int set = 0; set < 16; set++) {
                fits(chamber, set);
            }
            for (int k = 0; k < 4; k++) {
                for (int what = 0; what <= 2; what++) {
                    run(chamber, k, what);
                }
            }
        }
        for (int more = 0; more < 12; more++) {
            ask();
        }
    }

    private void count(int what) {
        alike("count(" + what + ")", Check.answer(() -> model.count(what)),
                Check.answer(() -> lock.count(what)));
    }

    private void home(int ship) {
        alike("home(" + ship + ")", Check.answer(() -> model.home(ship)),
                Check.answer(() -> lock.home(ship)));
    }

    private void of(int ship, int what) {
        alike("of(" + ship + "," + what + ")", Check.answer(() -> model.of(ship, what)),
                Check.answer(() -> lock.of(ship, what)));
    }

    private void fits(int chamber, int ships) {
        alike("fits(" + chamber + "," + ships + ")",
                Check.answer(() -> model.fits(chamber, ships) ? 1 : 0),
                Check.answer(() -> lock.fits(chamber, ships) ? 1 : 0));
    }

    private void run(int chamber, int k, int what) {
        alike("run(" + chamber + "," + k + "," + what + ")",
                Check.answer(() -> model.run(chamber, k, what)),
                Check.answer(() -> lock.run(chamber, k, what)));
    }
}
