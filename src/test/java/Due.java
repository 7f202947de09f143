/** Counts the answers of a test, prints each one that is not as due, and ends the test. */
final class Due {
    private static final int MOST_PRINTED = 40;

    private final String test;
    private int answers = 0;
    private int wrong = 0;

    Due(String test) {
        this.test = test;
    }

    void is(String call, long got, long want) {
        answers++;
        if (got != want) {
            wrong++;
            tell(call + " answered " + got + ", due is " + want);
        }
    }

    private void tell(String what) {
        if (wrong <= MOST_PRINTED) {
            System.out.println(test + ": " + what);
        }
    }

    void is(String call, boolean got, boolean want) {
        is(call, got ? 1 : 0, want ? 1 : 0);
    }

    /** The same for a call whose name is dear to put together. */
    void is(String where, String call, long got, long want) {
        if (got == want) {
            answers++;
        } else {
            is(where + call, got, want);
        }
    }

    boolean isWrong() {
        return wrong > 0;
    }

    void end() {
        System.out.println(test + ": " + answers + " answers, " + wrong + " wrong");
        if (wrong != 0 || answers == 0) {
            System.exit(1);
        }
    }
}
