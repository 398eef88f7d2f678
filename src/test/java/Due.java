/** Compares answers with those that are due, and ends a test. */
final class Due {
    private final String test;
    private int asked = 0;
    private int wrong = 0;

    Due(String test) {
        this.test = test;
    }

    void is(String call, long got, long want) {
        same(call, Long.toString(got), Long.toString(want));
    }

    void same(String call, String got, String want) {
        asked++;
        if (!got.equals(want)) {
            wrong++;
            System.out.println(test + ": " + call + " answered " + got + ", due is " + want);
        }
    }

    boolean wasWrong() {
        return wrong > 0;
    }

    void end() {
        if (asked == 0 || wrong > 0) {
            System.out.println(test + ": " + wrong + " of " + asked + " answers are not as due");
            System.exit(1);
        }
    }
}
