/** What the tests share: the sentence that is tested, the answers that are due, and the exit code at the end. */
final class Checks {
    static final String NONE = "NoSuchElementException";
    static final String ARGUMENT = "IllegalArgumentException";
    static final String STATE = "IllegalStateException";
    static final String ROOM = "UnsupportedOperationException";
    static final String DIVISOR = "ArithmeticException";

    private String sentence = "";
    private int wrong = 0;

    /** The document's words that the checks behind this call hold to. */
    void sentence(String words) {
        sentence = words;
    }

    void due(String what, long got, long want) {
        same(what, Long.toString(got), Long.toString(want));
    }

    void same(String what, String got, String want) {
        if (!got.equals(want)) {
            complain(what + " answered " + got + ", due is " + want);
        }
    }

    /** The call throws what is due, and nothing is changed by it. */
    void refused(String what, String due, Run x, String name, int... n) {
        Call call = new Call(name, n);
        Run without = x.again();
        without.idle(1);
        same(what + ": " + call, call.outcome(x), "throws." + due);
        unchanged(what + ": " + call, x, without);
    }

    /** The text is wrong in the line that begins at the place; the signs are gone, and nothing else is changed. */
    void wrongText(Run x, String text, int place) {
        Run without = x.again();
        without.idle(text.length() + 1);
        due("read of " + shown(text), x.readText(text), -1 - place);
        unchanged("read of " + shown(text), x, without);
    }

    private void unchanged(String what, Run x, Run without) {
        if (!State.of(x).equals(State.of(without))) {
            complain(what + " changed something");
        }
    }

    void complain(String what) {
        wrong++;
        System.out.println(sentence.isEmpty() ? what : "'" + sentence + "': " + what);
    }

    int wrong() {
        return wrong;
    }

    void finish() {
        if (wrong != 0) {
            System.out.println(wrong + " answers are not as due");
            System.exit(1);
        }
    }

    static String shown(String text) {
        StringBuilder all = new StringBuilder();
        for (char c : text.toCharArray()) {
            all.append(c >= ' ' && c < 127 ? String.valueOf(c) : "<" + (int) c + ">");
        }
        return all.toString();
    }
}
