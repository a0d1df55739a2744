/** What the tests share: telling a text, comparing answers, and the exit code at the end. */
final class Checks {
    interface Call {
        long answer();
    }

    private int wrong = 0;

    void due(String what, long got, long want) {
        if (got != want) {
            complain(what + " answered " + got + ", due is " + want);
        }
    }

    void refused(String what, Class<? extends RuntimeException> due, Call call) {
        String got = outcome(call);
        if (!got.equals("throws." + due.getSimpleName())) {
            complain(what + " answered " + got + ", due is throws." + due.getSimpleName());
        }
    }

    void same(String what, String got, String want) {
        if (!got.equals(want)) {
            complain(what + " answered " + got + ", due is " + want);
        }
    }

    void complain(String what) {
        wrong++;
        System.out.println(what);
    }

    int wrong() {
        return wrong;
    }

    void finish() {
        if (wrong != 0) {
            System.out.println(wrong + " answers are not as due");
            System.exit(1);
        }
    }

    /** The answer, or the very class that the call throws. */
    static String outcome(Call call) {
        try {
            return Long.toString(call.answer());
        } catch (RuntimeException e) {
            return "throws." + e.getClass().getSimpleName();
        }
    }

    static void tell(RateBreaks x, String text) {
        for (int i = 0; i < text.length(); i++) {
            x.sign(text.charAt(i));
        }
    }

    static int read(RateBreaks x, String text) {
        tell(x, text);
        return x.read();
    }

    static RateBreaks withRates(String text) {
        RateBreaks x = new RateBreaks();
        if (read(x, text) < 0) {
            throw new IllegalStateException("the test's own rates are wrong: " + text);
        }
        return x;
    }
}
