/** Promises 1 to 3: a new object, sign, read. */
public final class TextTest {
    private static final Checks t = new Checks();

    public static void main(String[] args) {
        newObject();
        signs();
        rightTexts();
        wrongLines();
        numbersAtTheirEdges();
        orderOfSteps();
        onceForAService();
        sixtyLines();
        whatAReadingChanges();
        t.finish();
    }

    private static void newObject() {
        RateBreaks x = new RateBreaks();
        for (int what = 0; what <= 5; what++) {
            t.due("new: count(" + what + ")", x.count(what), 0);
        }
        t.refused("new: told(0, 0)", java.util.NoSuchElementException.class, () -> x.told(0, 0));
        t.due("new: differ(0)", x.differ(0), -1);
        t.due("new: converted(1, 10000)", x.converted(1, 10000), -1);
        t.due("new: the first shipment", x.shipment(0, 1, 0), 0);
        t.due("new: no price", x.price(0, 0), -1);
        t.due("new: no divisor", x.weight(0, 0), 1);
        t.due("new: no cheapest", x.cheapest(0), -1);
        t.due("new: no parcels", x.parcels(0, 0), -1);
        t.due("new: the first contract", x.contract(0, 0, 1, 1), 1);
        t.due("new: the first currency", x.currency(0, 1, 1), 1);
    }

    private static void signs() {
        RateBreaks x = new RateBreaks();
        t.due("sign(0)", x.sign(0), 1);
        t.due("sign(255)", x.sign(255), 2);
        int[] outside = {-1, 256, Integer.MIN_VALUE, Integer.MAX_VALUE};
        for (int c : outside) {
            t.refused("sign(" + c + ")", IllegalArgumentException.class, () -> x.sign(c));
        }
        t.due("refused signs are not told", x.count(0), 2);
        for (int n = 3; n <= 600; n++) {
            t.due("sign " + n, x.sign('R'), n);
        }
        t.refused("sign 601", UnsupportedOperationException.class, () -> x.sign('R'));
        t.refused("a wrong sign 601", IllegalArgumentException.class, () -> x.sign(256));
        t.due("full", x.count(0), 600);
        t.due("a full text is read", x.read(), -1);
        t.due("signs are told anew", x.sign('R'), 1);
    }

    private static void rightTexts() {
        right("", 0);
        right("R 0 0 1 0\n", 1);
        right("R 9 9 100000 1000000\n", 1);
        right("D 0 0\nD 9 100000\nM 0 0\nM 9 1000000\nF 0 0 1\nF 9 1000 1000\n", 6);
        right("F 1 1 1\nR 1 0 5 5\nM 1 0\nR 1 0 6 4\nD 1 1\n", 5);
    }

    private static void wrongLines() {
        String[] lines = {
            "\n", " \n", "R\n", "R \n", "r 0 0 1 0\n", "Q 0 0\n", "X\n", " R 0 0 1 0\n", "RR 0 0 1 0\n",
            "R 0 0 1\n", "R 0 0 1 0 0\n", "R 0 0 1 0 \n", "R  0 0 1 0\n", "R 0 0  1 0\n", "R0 0 1 0\n",
            "R 0 0 1 0", "R 0 0 1 ", "R 0 0 1", "R", "R 0 0 1 0\r\n", "R\t0 0 1 0\n", "R 0 0 1 -0\n", "R 0 0 1 +1\n",
            "R 00 0 1 0\n", "R 0 00 1 0\n", "R 0 0 01 0\n", "R 0 0 1 00\n", "R 0 0 1 a\n", "R 0 0 1 1a\n",
            "R 0 0 1 /\n", "R 0 0 1 :\n", "R 0 0 1 \u00b2\n", "R 0 0 1 0\0\n",
            "D 0\n", "D 0 1 1\n", "D 0 1", "M 0\n", "M 0 1 1\n", "F 0 1\n", "F 0 1 1 1\n", "F 0 1 1", "D 0 1 \n",
            "D 0 1234567890\n", "D 0 0000000001\n", "D 0 999999999\n", "D 0 4294967297\n", "D 0 18446744073709551617\n",
        };
        for (String line : lines) {
            wrong("", line);
            wrong("M 8 5\nR 8 1 2 3\n", line);
        }
        t.due("the first of two wrong lines", Checks.read(new RateBreaks(), "M 0 1\nQ\nQ\n"), -7);
        t.due("behind a wrong line all is free", Checks.read(new RateBreaks(), "Q\nM 0 1\n"), -1);
    }

    private static void numbersAtTheirEdges() {
        String[] lines = {
            "R 10 0 1 0\n", "R 0 10 1 0\n", "R 0 0 0 0\n", "R 0 0 100001 0\n", "R 0 0 1 1000001\n",
            "D 10 1\n", "D 0 100001\n", "M 10 1\n", "M 0 1000001\n",
            "F 10 1 1\n", "F 0 0 0\n", "F 0 1 0\n", "F 0 2 1\n", "F 0 0 1001\n", "F 0 1001 1001\n", "F 0 1001 1000\n",
            "D 999999999 1\n", "F 999999999 0 1\n", "R 999999999 0 1 1\n", "R 0 999999999 1 1\n",
        };
        for (String line : lines) {
            wrong("", line);
            wrong("D 7 7\n", line);
        }
    }

    private static void orderOfSteps() {
        wrong("R 1 2 5 1\n", "R 1 2 5 2\n");
        wrong("R 1 2 5 1\n", "R 1 2 4 2\n");
        wrong("R 1 2 5 1\nR 1 3 9 1\nR 1 2 7 1\nR 2 2 1 1\n", "R 1 2 6 1\n");
        right("R 1 2 5 1\nR 1 2 6 0\n", 2);
        right("R 1 2 5 1\nR 1 3 5 1\nR 2 2 4 1\nR 1 2 6 1\n", 4);
        RateBreaks x = Checks.withRates("R 1 2 5 1\n");
        t.due("steps of an earlier text do not count", Checks.read(x, "R 1 2 3 1\n"), 1);
        t.due("nor do those of a wrong one", Checks.read(x, "R 1 2 9 1\nQ\n"), -11);
        t.due("so this is right", Checks.read(x, "R 1 2 3 1\n"), 1);
    }

    private static void onceForAService() {
        wrong("D 1 5\n", "D 1 5\n");
        wrong("D 1 0\n", "D 1 5\n");
        wrong("M 1 0\n", "M 1 5\n");
        wrong("F 1 0 1\n", "F 1 0 1\n");
        wrong("F 1 0 1\nF 2 0 1\n", "F 1 0 2\n");
        right("D 1 5\nM 1 5\nF 1 5 5\nD 2 5\nM 2 5\nF 2 5 5\n", 6);
        RateBreaks x = Checks.withRates("D 1 5\nM 1 5\nF 1 5 5\n");
        t.due("each once again in another text", Checks.read(x, "D 1 5\nM 1 5\nF 1 5 5\n"), 3);
        t.due("a wrong text", Checks.read(x, "D 1 5\nM 1 5\nF 1 5 5\nQ\n"), -21);
        t.due("each once behind a wrong text", Checks.read(x, "D 1 5\nM 1 5\nF 1 5 5\n"), 3);
    }

    private static void sixtyLines() {
        StringBuilder sixty = new StringBuilder();
        for (int service = 0; service <= 9; service++) {
            sixty.append("D ").append(service).append(" 1\n");
            sixty.append("M ").append(service).append(" 1\n");
            sixty.append("F ").append(service).append(" 0 1\n");
            for (int zone = 0; zone <= 2; zone++) {
                sixty.append("R ").append(service).append(' ').append(zone).append(" 1 0\n");
            }
        }
        right(sixty.toString(), 60);
        wrong(sixty.toString(), "R 0 3 1 0\n");
        wrong(sixty.toString(), "\n");
        RateBreaks steps = new RateBreaks();
        StringBuilder lines = new StringBuilder();
        for (int i = 0; i < 60; i++) {
            lines.append("R ").append(i / 9).append(" 0 ").append(i % 9 + 1).append(" 1\n");
        }
        t.due("sixty steps", Checks.read(steps, lines.toString()), 60);
        t.due("sixty steps are kept", steps.count(1), 60);
        steps.shipment(0, 6, 0);
        t.due("the last of sixty steps", steps.price(0, 6), 1);
    }

    private static void whatAReadingChanges() {
        RateBreaks x = Checks.withRates("R 1 0 10 7\nD 1 2\nM 1 5\nF 1 1 2\n");
        x.shipment(0, 4, 10);
        t.due("by the first rates", x.price(0, 1), 11);
        t.due("a wrong text", Checks.read(x, "R 1 0 10 9\nM 1 1000001\n"), -12);
        t.due("a wrong text changes no price", x.price(0, 1), 11);
        t.due("a wrong text changes no weight", x.weight(0, 1), 5);
        t.due("a wrong text changes no lines", x.count(1), 4);
        t.due("its signs are gone", x.count(0), 0);
        t.due("a right text", Checks.read(x, "R 1 0 10 9\n"), 1);
        t.due("the signs are gone", x.count(0), 0);
        t.due("no divisor, fuel or minimum stays", x.price(0, 1), 9);
        t.due("no divisor stays", x.weight(0, 1), 4);
        t.due("a text without signs", x.read(), 0);
        t.due("no lines", x.count(1), 0);
        t.due("no steps", x.price(0, 1), -1);
        t.due("the shipment stays", x.count(2), 1);
    }

    private static void right(String text, int lines) {
        RateBreaks x = new RateBreaks();
        t.due("read " + shown(text), Checks.read(x, text), lines);
        t.due("lines of " + shown(text), x.count(1), lines);
    }

    /** A right text and then a wrong line; the rates from before must stay. */
    private static void wrong(String before, String line) {
        RateBreaks x = Checks.withRates("M 0 1\nM 1 1\n");
        t.due("read " + shown(before + line), Checks.read(x, before + line), -1 - before.length());
        t.due("lines that stay behind " + shown(before + line), x.count(1), 2);
        t.due("signs behind " + shown(before + line), x.count(0), 0);
    }

    private static String shown(String text) {
        return '"' + text.replace("\n", "\\n").replace("\r", "\\r") + '"';
    }
}
