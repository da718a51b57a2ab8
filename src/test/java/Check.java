import java.util.function.IntSupplier;

/** Compares answers with those that are due, and ends the test with exit code 1 if one differs. */
final class Check {
    static final String INDEX = "IndexOutOfBoundsException";
    static final String ARGUMENT = "IllegalArgumentException";
    static final String STATE = "IllegalStateException";
    static final String ARITHMETIC = "ArithmeticException";

    private final String test;
    private int asked;
    private int wrong;

    Check(String test) {
        this.test = test;
    }

    void due(String call, Object want, Object got) {
        asked++;
        if (!want.equals(got)) {
            wrong++;
            System.out.println(test + ": " + call + " answered " + got + ", due is " + want);
        }
    }

    /** The call has to throw this very class of exception, not one below it. */
    void refused(String call, String exception, IntSupplier asking) {
        due(call, "throws." + exception, answer(asking));
    }

    /** What a call answers, or throws.Name. */
    static String answer(IntSupplier asking) {
        try {
            return Integer.toString(asking.getAsInt());
        } catch (RuntimeException e) {
            return "throws." + e.getClass().getSimpleName();
        }
    }

    /** All that an object tells of itself, by every asking call. */
    static String state(LockRuns lock) {
        StringBuilder all = new StringBuilder();
        for (int what = -1; what <= 8; what++) {
            int w = what;
            all.append(" count").append(w).append('=').append(answer(() -> lock.count(w)));
        }
        for (int ship = -1; ship <= 4; ship++) {
            int s = ship;
            all.append(" home").append(s).append('=').append(answer(() -> lock.home(s)));
            for (int what = -1; what <= 7; what++) {
                int w = what;
                all.append(" of").append(s).append(',').append(w).append('=')
                        .append(answer(() -> lock.of(s, w)));
            }
        }
        for (int chamber = -1; chamber <= 2; chamber++) {
            int c = chamber;
            for (int set = -1; set <= 16; set++) {
                int ships = set;
                all.append(" fits").append(c).append(',').append(ships).append('=')
                        .append(answer(() -> lock.fits(c, ships) ? 1 : 0));
            }
            for (int run = -1; run <= 4; run++) {
                int k = run;
                for (int what = -1; what <= 3; what++) {
                    int w = what;
                    all.append(" run").append(c).append(',').append(k).append(',').append(w)
                            .append('=').append(answer(() -> lock.run(c, k, w)));
                }
            }
        }
        return all.toString();
    }

    void end() {
        System.out.println(test + ": " + asked + " answers, " + wrong + " not as due");
        if (wrong != 0 || asked == 0) {
            System.exit(1);
        }
    }
}
