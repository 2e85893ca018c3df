/** Compares answers with those that are due, prints the wrong ones and counts them. */
final class Due {
    private final String test;
    private int right;
    private int wrong;

    Due(String test) {
        this.test = test;
    }

    void same(String call, long got, long want) {
        if (got == want) {
            right++;
            return;
        }
        wrong++;
        // A broken promise may show thousands of times; the first rows tell enough.
        if (wrong <= 40) {
            System.out.println(test + ": " + call + " answered " + got + ", due is " + want);
        }
    }

    void holds(String claim, boolean truth) {
        same(claim, truth ? 1 : 0, 1);
    }

    void refused(String call, boolean answer) {
        same(call, answer ? 1 : 0, 0);
    }

    /** Ends the program: with exit code 1 when an answer was wrong, or none was looked at. */
    void close() {
        System.out.println(test + ": " + right + " answers as due, " + wrong + " not");
        if (wrong > 0 || right == 0) {
            System.exit(1);
        }
    }
}
