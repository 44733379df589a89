/** Compares answers with those that are due, and ends a test's main method. */
final class Due {
    private static final int MOST_TOLD = 40;
    private final String test;
    private int compared = 0;
    private int wrong = 0;

    Due(String test) {
        this.test = test;
    }

    void is(String call, long got, long want) {
        compared++;
        if (got != want) {
            fail(call + " answered " + got + ", due is " + want);
        }
    }

    void holds(String what, boolean so) {
        compared++;
        if (!so) {
            fail(what);
        }
    }

    private void fail(String told) {
        wrong++;
        if (wrong <= MOST_TOLD) {
            System.out.println(test + ": " + told);
        }
    }

    boolean hasFailed() {
        return wrong > 0;
    }

    void end() {
        System.out.println(test + ": " + compared + " compared, " + wrong + " wrong");
        if (wrong > 0 || compared == 0) {
            System.exit(1);
        }
    }
}
