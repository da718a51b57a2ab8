import java.util.function.IntSupplier;

/** Compares answers with those that are due, and ends the test with exit code 1 if one differs. */
final class Check {
    static final String INDEX = "IndexOutOfBoundsException";
    static final String ARGUMENT = "IllegalArgumentException";
    static final String STATE = "IllegalStateException";
    static final String ARITHMETIC = "ArithmeticException";

    private final String test;
    private String sentence = "";
    private int askedOfSentence;
    private int asked;
    private int wrong;

    Check(String test) {
        this.test = test;
    }

    /** The document's words that the answers from here on are due by. */
    void sentence(String words) {
        endSentence();
        sentence = words;
        askedOfSentence = 0;
    }

    private void endSentence() {
        // A sentence that nothing was asked of is not tested.
        if (!sentence.isEmpty() && askedOfSentence == 0) {
            wrong++;
            System.out.println(test + ": nothing was asked of \"" + sentence + "\"");
        }
    }

    void due(String call, Object want, Object got) {
        asked++;
        askedOfSentence++;
        if (!want.equals(got)) {
            wrong++;
            System.out.println(test + ": " + (sentence.isEmpty() ? "" : "\"" + sentence + "\": ")
                    + call + " answered " + got + ", due is " + want);
        }
    }

    /** The call has to throw this very class of exception, not one below it. */
    void refused(String call, String exception, IntSupplier asking) {
        due(call, "throws." + exception, answer(asking));
    }

    /** What a call answers, or throws.Name. */
    static String answer(IntSupplier asking) {
        try {
            return Integer.toString(asking.getAsInt());
        } catch (RuntimeException e) {
            // The others that the machine throws have names of their own.
            boolean divided = "/ by zero".equals(e.getMessage());
            return "throws." + e.getClass().getSimpleName() + (divided ? " of the machine" : "");
        }
    }

    /**
     * All that an object tells of itself, in some 100 calls: an object is good for 512, so that
     * it can be asked for a few times.
     */
    static String state(LockRuns lock) {
        StringBuilder all = new StringBuilder();
        for (int what = 0; what <= 7; what++) {
            int w = what;
            tell(all, "count" + w, () -> lock.count(w));
        }
        for (int ship = 0; ship < 4; ship++) {
            int s = ship;
            tell(all, "home" + s, () -> lock.home(s));
            for (int what = 0; what <= 6; what++) {
                int w = what;
                tell(all, "of" + s + "," + w, () -> lock.of(s, w));
            }
        }
        for (int chamber = 0; chamber < 2; chamber++) {
            int c = chamber;
            for (int set = 0; set < 16; set++) {
                int ships = set;
                tell(all, "fits" + c + "," + ships, () -> lock.fits(c, ships) ? 1 : 0);
            }
            for (int run = 0; run < 4; run++) {
                int k = run;
                for (int what = 0; what <= 2; what++) {
                    int w = what;
                    tell(all, "run" + c + "," + k + "," + w, () -> lock.run(c, k, w));
                }
            }
        }
        return all.toString();
    }

    private static void tell(StringBuilder all, String call, IntSupplier asking) {
        all.append(' ').append(call).append('=').append(answer(asking));
    }

    void end() {
        endSentence();
        System.out.println(test + ": " + asked + " answers, " + wrong + " not as due");
        if (wrong != 0 || asked == 0) {
            System.exit(1);
        }
    }
}
