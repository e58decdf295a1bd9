/** Counts the answers of one test that are not the ones due, and ends the test with them. */
final class Due {
    private static final int PRINTED_AT_MOST = 40;

    private final String test;
    private int asked;
    private int wrong;

    Due(String test) {
        this.test = test;
    }

    void is(String call, long got, long want) {
        asked++;
        if (got != want) {
            tellWrong(call + " answered " + got + ", due is " + want);
        }
    }

    void same(String what, String got, String want) {
        asked++;
        if (!got.equals(want)) {
            tellWrong(what + " is " + got + ", due is " + want);
        }
    }

    void holds(String what, boolean held) {
        asked++;
        if (!held) {
            tellWrong("does not hold: " + what);
        }
    }

    int wrongSoFar() {
        return wrong;
    }

    void close() {
        System.out.println(test + ": " + asked + " answers, " + wrong + " not as due");
        if (wrong != 0) {
            System.exit(1);
        }
    }

    private void tellWrong(String text) {
        wrong++;
        if (wrong <= PRINTED_AT_MOST) {
            System.out.println(test + ": " + text);
        }
    }
}
