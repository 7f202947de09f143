/** Counts the answers of a test, prints each one that is not as due, and ends the test. */
final class Due {
    private static final int MOST_PRINTED = 40;

    private final String test;
    private String sentence = "";
    private int answers = 0;
    private int wrong = 0;

    Due(String test) {
        this.test = test;
    }

    /** The sentence of the document by which the answers from now on are due. */
    void about(String words) {
        sentence = words;
    }

    void is(String call, long got, long want) {
        answers++;
        if (got != want) {
            wrong++;
            tell(call + " answered " + got + ", due is " + want);
        }
    }

    private void tell(String what) {
        if (wrong <= MOST_PRINTED) {
            String by = sentence.isEmpty() ? "" : " by \"" + sentence + "\"";
            System.out.println(test + ": " + what + by);
        }
    }

    void is(String call, boolean got, boolean want) {
        is(call, got ? 1 : 0, want ? 1 : 0);
    }

    /** The same for a call whose name is dear to put together. */
    void is(String where, String call, long got, long want) {
        if (got == want) {
            answers++;
        } else {
            is(where + call, got, want);
        }
    }

    /** Both lists from the front to the end, their numbers with blanks between, and no more. */
    void lists(PageHold x, String where, String active, String inactive) {
        list(x, where, true, active);
        list(x, where, false, inactive);
    }

    private void list(PageHold x, String where, boolean active, String pages) {
        String[] due = pages.isEmpty() ? new String[0] : pages.split(" ");
        for (int k = 0; k <= due.length; k++) {
            int want = k < due.length ? Integer.parseInt(due[k]) : PageHold.NONE;
            is(where + ": listed(" + active + ", " + k + ")", x.listed(active, k), want);
        }
    }

    /** All RUNS of the RECORD, three numbers each. */
    void runs(PageHold x, String where, int... runs) {
        is(where + ": told(10)", x.told(10), runs.length / 3);
        for (int i = 0; i < runs.length; i++) {
            is(where + ": run(" + i / 3 + ", " + i % 3 + ")", x.run(i / 3, i % 3), runs[i]);
        }
        is(where + ": run behind", x.run(runs.length / 3, 0), PageHold.NONE);
    }

    /** page() with what = 0 and on. */
    void page(PageHold x, int file, int page, int... answers) {
        for (int what = 0; what < answers.length; what++) {
            String call = "page(" + file + ", " + page + ", " + what + ")";
            is(call, x.page(file, page, what), answers[what]);
        }
    }

    /** told() with what = 0 and on. */
    void told(PageHold x, String where, int... answers) {
        for (int what = 0; what < answers.length; what++) {
            is(where + ": told(" + what + ")", x.told(what), answers[what]);
        }
    }

    boolean isWrong() {
        return wrong > 0;
    }

    void end() {
        System.out.println(test + ": " + answers + " answers, " + wrong + " wrong");
        if (wrong != 0 || answers == 0) {
            System.exit(1);
        }
    }
}
