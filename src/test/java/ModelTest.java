import java.util.Random;

/** All promises: the same runs of calls on LockRuns and on Model, with a fixed seed. */
public final class ModelTest {
    private static final int RUNS = 1500;
    private static final Check CHECK = new Check("ModelTest");

    private final Random random;
    private final LockRuns lock = new LockRuns();
    private final Model model = new Model();
    private final StringBuilder told = new StringBuilder();
    // Times close to one another make ties and overtaking, times far apart reach the edges.
    private final int lastTime;
    private final int longestFill;
    private final int longestShip;

    private ModelTest(int seed) {
        random = new Random(seed);
        lastTime = new int[] {3, 12, 40, 1000}[random.nextInt(4)];
        longestFill = new int[] {2, 10, 60}[random.nextInt(3)];
        longestShip = new int[] {2, 4, 8}[random.nextInt(3)];
    }

    public static void main(String[] args) {
        for (int seed = 0; seed < RUNS; seed++) {
            new ModelTest(seed).go();
        }
        CHECK.end();
    }

    private void go() {
        int calls = 8 + random.nextInt(14);
        for (int call = 0; call < calls; call++) {
            switch (random.nextInt(12)) {
                case 0 -> chamber();
                case 1, 2, 3 -> ship();
                case 4, 5 -> closed();
                case 6 -> rule();
                case 7, 8 -> same("plan()", Check.answer(model::plan), Check.answer(lock::plan));
                case 9, 10 -> late();
                default -> rate();
            }
            if (random.nextInt(3) == 0) {
                compare();
            }
        }
        same("plan()", Check.answer(model::plan), Check.answer(lock::plan));
        compare();
    }

    private void same(String call, String want, String got) {
        told.append(' ').append(call);
        CHECK.due(told.toString(), want, got);
    }

    /** A number of this span, and now and then one just outside it, or far. */
    private int some(int least, int most) {
        int dice = random.nextInt(60);
        if (dice == 0) {
            return least - 1;
        }
        if (dice == 1) {
            return most + 1;
        }
        if (dice == 2) {
            return random.nextInt();
        }
        return least + random.nextInt(most - least + 1);
    }

    private void chamber() {
        int l = random.nextBoolean() ? longestShip : some(1, 8);
        int w = some(1, 3);
        int f = some(1, longestFill);
        same("chamber(" + l + "," + w + "," + f + ")", Check.answer(() -> model.chamber(l, w, f)),
                Check.answer(() -> lock.chamber(l, w, f)));
    }

    private void ship() {
        int l = some(1, longestShip);
        int w = some(1, random.nextBoolean() ? 1 : 3);
        int a = some(0, lastTime);
        int d = some(0, 1);
        int s = some(0, 2);
        same("ship(" + l + "," + w + "," + a + "," + d + "," + s + ")",
                Check.answer(() -> model.ship(l, w, a, d, s)),
                Check.answer(() -> lock.ship(l, w, a, d, s)));
    }

    private void closed() {
        int c = some(0, 1);
        int from = some(0, lastTime);
        int to = random.nextInt(20) == 0 ? some(9990, 10000) : from + some(0, longestFill * 2);
        same("closed(" + c + "," + from + "," + to + ")",
                Check.answer(() -> model.closed(c, from, to) ? 1 : 0),
                Check.answer(() -> lock.closed(c, from, to) ? 1 : 0));
    }

    private void rule() {
        int gap = some(0, random.nextBoolean() ? 1 : 3);
        int over = some(0, 3);
        same("rule(" + gap + "," + over + ")",
                Check.answer(() -> model.rule(gap, over) ? 1 : 0),
                Check.answer(() -> lock.rule(gap, over) ? 1 : 0));
    }

    private void late() {
        int ship = some(0, 3);
        int time = some(0, lastTime);
        same("late(" + ship + "," + time + ")", Check.answer(() -> model.late(ship, time)),
                Check.answer(() -> lock.late(ship, time)));
    }

    private void rate() {
        int runs = some(0, 1000);
        int minutes = some(0, random.nextBoolean() ? 3 : 1000);
        same("rate(" + runs + "," + minutes + ")", Check.answer(() -> model.rate(runs, minutes)),
                Check.answer(() -> lock.rate(runs, minutes)));
    }

    private void compare() {
        for (int what = -1; what <= 8; what++) {
            int w = what;
            alike("count(" + w + ")", Check.answer(() -> model.count(w)),
                    Check.answer(() -> lock.count(w)));
        }
        for (int ship = -1; ship <= 4; ship++) {
            int s = ship;
            alike("home(" + s + ")", Check.answer(() -> model.home(s)),
                    Check.answer(() -> lock.home(s)));
            for (int what = -1; what <= 7; what++) {
                int w = what;
                alike("of(" + s + "," + w + ")", Check.answer(() -> model.of(s, w)),
                        Check.answer(() -> lock.of(s, w)));
            }
        }
        for (int chamber = -1; chamber <= 2; chamber++) {
            compareChamber(chamber);
        }
    }

    private void compareChamber(int c) {
        for (int set = -1; set <= 16; set++) {
            int ships = set;
            alike("fits(" + c + "," + ships + ")", Check.answer(() -> model.fits(c, ships) ? 1 : 0),
                    Check.answer(() -> lock.fits(c, ships) ? 1 : 0));
        }
        for (int run = -1; run <= 4; run++) {
            int k = run;
            for (int what = -1; what <= 3; what++) {
                int w = what;
                alike("run(" + c + "," + k + "," + w + ")", Check.answer(() -> model.run(c, k, w)),
                        Check.answer(() -> lock.run(c, k, w)));
            }
        }
    }

    private void alike(String call, String want, String got) {
        CHECK.due(want.equals(got) ? call : told + " " + call, want, got);
    }
}
