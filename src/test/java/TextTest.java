/** Promises 1 to 3 and the text of "Terms": a new object, signs, lines, numbers, the ranges of each line, reading. */
public final class TextTest {
    private static final Checks t = new Checks();
    private static final String[] LINES = {"R 0 0 1 0", "D 0 0", "M 0 0", "F 0 0 1"};

    public static void main(String[] args) {
        aNewObject();
        signsOfTheirRange();
        aFullText();
        linesEndBySign10();
        letters();
        howManyNumbers();
        oneBlankBeforeEach();
        digits();
        noZeroInFront();
        atMostNineDigits();
        rangesOfSteps();
        rangesOfDivisors();
        rangesOfMinima();
        rangesOfFuelShares();
        weightsGrow();
        onceForAService();
        sixtyLines();
        fiftySteps();
        aTextWithoutSigns();
        thePlaceOfTheFirstWrongLine();
        ratesInsteadOfEarlierOnes();
        nothingChanges();
        theSignsAreGone();
        t.finish();
    }

    private static void aNewObject() {
        t.sentence("No text, no rates, no shipments");
        Run x = new Run();
        for (int what = 0; what <= 5; what++) {
            t.due("count " + what, x.count(what), 0);
        }
        t.refused("no shipment", Checks.NONE, x, "told", 0, 0);
        t.due("differ(0)", x.differ(0), -1);
        t.due("no currency", x.converted(1, 10000), -1);
        t.due("the first shipment", x.shipment(0, 1, 0), 0);
        for (int service = 0; service <= 9; service++) {
            t.due("no price", x.price(0, service), -1);
            t.due("no divisor", x.weight(0, service), 1);
            t.due("no parcels", x.parcels(0, service), -1);
            t.due("no contract", x.contract(service, 0, 1, 1), 1);
        }
        t.due("no cheapest", x.cheapest(0), -1);
        t.due("no day with a currency", x.currency(0, 1, 1), 1);
        t.due("no text to read", x.read(), 0);
        Run other = new Run();
        t.due("another object is new too", other.count(2), 0);
        t.due("and has numbers of its own", other.shipment(0, 1, 0), 0);
    }

    private static void signsOfTheirRange() {
        t.sentence("the signs that were told (0 .. 255, at most 600)");
        Run x = new Run();
        for (int c = 0; c <= 255; c++) {
            t.due("sign " + c, x.sign(c), c + 1);
        }
        for (int c : new int[] {-1, 256, 10 - 256, 256 + 10, 65536 + 82, Integer.MIN_VALUE, Integer.MAX_VALUE}) {
            t.refused("outside", Checks.ARGUMENT, x, "sign", c);
        }
        t.due("signs", x.count(0), 256);
        t.due("the next sign", x.sign('R'), 257);
    }

    /** Without a Run: 600 signs are more calls than are promised, but nothing else can show a full text. */
    private static void aFullText() {
        t.sentence("at most 600");
        RateBreaks x = new RateBreaks();
        for (int n = 1; n <= 600; n++) {
            t.due("sign " + n, x.sign('R'), n);
        }
        for (int turn = 0; turn < 2; turn++) {
            t.same("sign 601", refusal(x, 'R'), Checks.ROOM);
            t.same("sign 601, outside its range", refusal(x, 256), Checks.ARGUMENT);
            t.same("sign 601, below its range", refusal(x, -1), Checks.ARGUMENT);
        }
        t.due("signs", x.count(0), 600);
        t.due("it is read", x.read(), -1);
        t.due("and told anew", x.sign('R'), 1);
    }

    private static String refusal(RateBreaks x, int c) {
        try {
            return "sign " + x.sign(c);
        } catch (RuntimeException e) {
            return e.getClass().getSimpleName();
        }
    }

    private static void linesEndBySign10() {
        t.sentence("LINES, each ended by sign 10");
        for (String line : LINES) {
            right(line + "\n", 1);
            String[] ends = {"", "\r", "\r\n", "\0", "\u000b", "\u0085", ";", " ", "\t\n", "\0\n", "\u00ff\n"};
            for (String end : ends) {
                wrong(line + end);
            }
            for (int length = 1; length < line.length(); length++) {
                wrong(line.substring(0, length));
                wrong(line.substring(0, length) + "\n");
            }
        }
        wrong("\n");
        wrong("\n\n");
        wrong("\nM 0 0\n");
        wrong("M 0 0 M 1 0\n");
        wrong("M 0 0M 1 0\n");
    }

    private static void letters() {
        t.sentence("A line is a letter");
        for (int c = 0; c <= 255; c++) {
            for (String line : LINES) {
                String other = (char) c + line.substring(1);
                if (c == 'R' || c == 'D' || c == 'M' || c == 'F') {
                    t.due("read of " + Checks.shown(other), new Run().readText(other + "\n"), mayBe(other) ? 1 : -1);
                } else {
                    t.due("read of " + Checks.shown(other), new Run().readText(other + "\n"), -1);
                }
            }
        }
        wrong(" M 0 0\n");
        wrong("MM 0 0\n");
        wrong(" 0 0\n");
        wrong("0 0\n");
        wrong("m 0 0\n");
    }

    /** Of the lines above with another letter: D and M take two numbers, R four, F three of which the last is not 0. */
    private static boolean mayBe(String line) {
        int numbers = line.split(" ").length - 1;
        return numbers == (line.charAt(0) == 'R' ? 4 : line.charAt(0) == 'F' ? 3 : 2);
    }

    private static void howManyNumbers() {
        t.sentence("and so many numbers");
        for (String line : LINES) {
            wrong(line.substring(0, line.lastIndexOf(' ')) + "\n");
            wrong(line + " 0\n");
            wrong(line + " 1\n");
            wrong(line.substring(0, 1) + "\n");
            wrong(line.substring(0, 1) + " \n");
        }
    }

    private static void oneBlankBeforeEach() {
        t.sentence("one blank (32) before each");
        for (String line : LINES) {
            for (int at = line.indexOf(' '); at >= 0; at = line.indexOf(' ', at + 1)) {
                for (String blank : new String[] {"", "  ", "\t", "\0", "\u00a0", ",", "!", "\u001f", "\n"}) {
                    wrong(line.substring(0, at) + blank + line.substring(at + 1) + "\n");
                }
            }
            wrong(line + " \n");
            wrongBehind(line + "\n", " ");
        }
    }

    private static void digits() {
        t.sentence("a number is one or more digits");
        for (int place = 1; place <= 4; place++) {
            for (String number : new String[] {
                "", "-0", "-1", "+1", "/", ":", "a", "\u00b2", "\u00b9", "0x1", "1a", "1/", "1:", "1.", "1 "}) {
                wrongNumber(place, number);
            }
        }
        StringBuilder all = new StringBuilder();
        for (int digit = 0; digit <= 9; digit++) {
            all.append("M ").append(digit).append(" ").append(digit * 111111 % 1000000).append("\n");
        }
        Run x = new Run();
        t.due("each digit", x.readText(all.append("R 3 0 1 0\nR 7 0 1 0\nR 9 0 1 0\n").toString()), 13);
        x.shipment(0, 1, 0);
        t.due("333333", x.price(0, 3), 333333);
        t.due("777777", x.price(0, 7), 777777);
        t.due("999999", x.price(0, 9), 999999);
    }

    private static void noZeroInFront() {
        t.sentence("without a 0 in front (but 0 itself)");
        right("R 0 0 1 0\n", 1);
        right("D 0 0\nM 0 0\nF 0 0 1\n", 3);
        right("R 0 0 10 100\nD 0 100\nM 0 1000\nF 0 10 10\n", 4);
        for (int place = 1; place <= 4; place++) {
            for (String number : new String[] {"00", "01", "001", "000000001", "0000000001", "000000000", "0000000000"}) {
                wrongNumber(place, number);
            }
        }
    }

    private static void atMostNineDigits() {
        t.sentence("at most nine of them");
        for (int place = 1; place <= 4; place++) {
            // Nine digits are a number, but above every range; of ten and more some would wrap round into the range.
            for (String number : new String[] {
                "100000000", "999999999", "1000000000", "1000000001", "1111111111", "9999999999", "2147483647", "2147483648",
                "2147483649", "4294967295", "4294967296", "4294967297", "8589934593", "10000000000", "99999999999",
                "9223372036854775808", "18446744073709551616", "18446744073709551617", "11111111111111111111111111111111"}) {
                wrongNumber(place, number);
            }
        }
    }

    /** Each kind of line with this instead of the number at the place. */
    private static void wrongNumber(int place, String number) {
        for (String line : LINES) {
            String[] words = line.split(" ");
            if (place < words.length) {
                words[place] = number;
                wrong(String.join(" ", words) + "\n");
            }
        }
    }

    private static void rangesOfSteps() {
        t.sentence("a STEP (service, zone 0 .. 9; weight 1 .. 100000 grams; cents 0 .. 1000000)");
        Run x = Run.withRates("R 0 0 1 0\nR 9 9 100000 1000000\nR 0 9 1 1\nR 9 0 99999 999999\n");
        x.shipment(0, 1, 0);
        x.shipment(9, 100000, 0);
        x.shipment(9, 1, 0);
        x.shipment(0, 99999, 0);
        t.due("the least of all", x.price(0, 0), 0);
        t.due("the greatest of all", x.price(1, 9), 1000000);
        t.due("the last zone of the first service", x.price(2, 0), 1);
        t.due("the first zone of the last service", x.price(3, 9), 999999);
        t.due("not the last zone of the first service", x.price(1, 0), -1);
        wrong("R 10 0 1 0\n");
        wrong("R 0 10 1 0\n");
        wrong("R 0 0 0 0\n");
        wrong("R 0 0 100001 0\n");
        wrong("R 0 0 1 1000001\n");
        wrong("R 10 10 100001 1000001\n");
    }

    private static void rangesOfDivisors() {
        t.sentence("a DIVISOR 0 .. 100000");
        Run x = Run.withRates("D 0 1\nD 9 100000\nD 5 0\nD 8 99999\n");
        x.shipment(0, 1, 100000000);
        t.due("the first service", x.weight(0, 0), 100000000);
        t.due("the last service, the greatest divisor", x.weight(0, 9), 1000);
        t.due("the one below it", x.weight(0, 8), 1001);
        t.refused("the least", Checks.DIVISOR, x, "weight", 0, 5);
        wrong("D 10 1\n");
        wrong("D 0 100001\n");
    }

    private static void rangesOfMinima() {
        t.sentence("a MINIMUM 0 .. 1000000");
        Run x = Run.withRates("R 0 0 1 3\nM 0 0\nR 9 0 1 3\nM 9 1000000\n");
        x.shipment(0, 1, 0);
        t.due("the first service, the least", x.price(0, 0), 3);
        t.due("the last service, the greatest", x.price(0, 9), 1000000);
        wrong("M 10 1\n");
        wrong("M 0 1000001\n");
    }

    private static void rangesOfFuelShares() {
        t.sentence("a FUEL share, down 1 .. 1000, up 0 .. down");
        Run x = Run.withRates("R 0 0 1 7\nR 1 0 1 7\nR 2 0 1 7\nR 8 0 1 7\nR 9 0 1 7\n"
            + "F 0 0 1\nF 1 1 1\nF 2 0 1000\nF 8 999 1000\nF 9 1000 1000\n");
        x.shipment(0, 1, 0);
        t.due("0 by 1", x.price(0, 0), 7);
        t.due("1 by 1", x.price(0, 1), 14);
        t.due("0 by 1000", x.price(0, 2), 7);
        t.due("999 by 1000", x.price(0, 8), 14);
        t.due("1000 by 1000", x.price(0, 9), 14);
        wrong("F 10 1 1\n");
        wrong("F 0 0 0\n");
        wrong("F 0 1 0\n");
        wrong("F 0 2 1\n");
        wrong("F 0 0 1001\n");
        wrong("F 0 1001 1001\n");
        wrong("F 0 1001 1000\n");
        wrong("F 0 501 500\n");
        right("F 0 500 500\n", 1);
    }

    private static void weightsGrow() {
        t.sentence("the weight is greater than that of the line's earlier steps of this service and zone");
        right("R 1 2 5 1\nR 1 2 6 0\n", 2);
        right("R 1 2 1 1\nR 1 2 100000 1\n", 2);
        wrongBehind("R 1 2 5 1\n", "R 1 2 5 1\n");
        wrongBehind("R 1 2 5 1\n", "R 1 2 5 2\n");
        wrongBehind("R 1 2 5 1\n", "R 1 2 4 2\n");
        wrongBehind("R 1 2 100000 1\n", "R 1 2 1 2\n");
        wrongBehind("R 1 2 5 1\nR 1 3 9 1\nR 1 2 7 1\nR 2 2 1 1\n", "R 1 2 6 1\n");
        wrongBehind("R 0 0 5 1\nR 9 9 3 1\n", "R 0 0 5 1\n");
        right("R 1 2 5 1\nR 1 3 5 1\nR 2 2 4 1\nR 2 1 5 1\nR 1 2 6 1\n", 5);
        right("R 0 1 5 1\nR 1 0 5 1\nR 0 0 5 1\nR 1 1 5 1\n", 4);
        Run x = Run.withRates("R 1 2 5 1\n");
        t.due("steps of earlier rates do not count", x.readText("R 1 2 3 1\n"), 1);
        t.wrongText(x, "R 1 2 9 1\nQ\n", 10);
        t.due("nor do those of a wrong text", x.readText("R 1 2 3 1\n"), 1);
    }

    private static void onceForAService() {
        t.sentence("Each at most once for a service");
        wrongBehind("D 1 5\n", "D 1 5\n");
        wrongBehind("D 1 0\n", "D 1 5\n");
        wrongBehind("D 0 5\nD 9 5\n", "D 0 0\n");
        wrongBehind("M 1 5\n", "M 1 5\n");
        wrongBehind("M 1 0\n", "M 1 5\n");
        wrongBehind("M 0 5\nM 9 5\n", "M 9 0\n");
        wrongBehind("F 1 0 1\n", "F 1 0 1\n");
        wrongBehind("F 1 0 1\nF 2 0 1\n", "F 1 0 2\n");
        wrongBehind("F 1 1 1\nR 1 0 1 1\nD 1 1\n", "F 1 1 1\n");
        right("D 1 5\nM 1 5\nF 1 5 5\nD 2 5\nM 2 5\nF 2 5 5\n", 6);
        right("D 0 5\nD 1 5\nD 9 5\nM 0 5\nM 1 5\nM 9 5\nF 0 5 5\nF 1 5 5\nF 9 5 5\n", 9);
        Run x = Run.withRates("D 1 5\nM 1 5\nF 1 5 5\n");
        t.due("those of earlier rates do not count", x.readText("D 1 5\nM 1 5\nF 1 5 5\n"), 3);
        t.wrongText(x, "D 2 5\nM 2 5\nF 2 5 5\nQ\n", 20);
        t.due("nor do those of a wrong text", x.readText("D 2 5\nM 2 5\nF 2 5 5\n"), 3);
    }

    /** The shortest lines that there are: only so do more than sixty of them fit in 512 calls. */
    private static String shortLines() {
        StringBuilder all = new StringBuilder();
        for (int service = 0; service <= 9; service++) {
            all.append("D ").append(service).append(" 1\n");
            all.append("M ").append(service).append(" 1\n");
            all.append("F ").append(service).append(" 0 1\n");
            for (int zone = 0; zone <= 2; zone++) {
                all.append("R ").append(service).append(' ').append(zone).append(" 1 0\n");
            }
        }
        return all.toString();
    }

    private static void sixtyLines() {
        t.sentence("READING takes all lines (at most 60)");
        String sixty = shortLines();
        Run x = new Run();
        x.shipment(2, 1, 0);
        t.due("sixty lines", x.readText(sixty), 60);
        t.due("lines of the rates", x.count(1), 60);
        t.due("the last line counts", x.price(0, 9), 1);
        t.due("59 lines", new Run().readText(sixty.substring(0, sixty.length() - 10)), 59);
        for (String more : new String[] {"R 0 3 1 0\n", "\n", "Q\n", "R"}) {
            Run y = new Run();
            t.due("a line more: " + Checks.shown(more), y.readText(sixty + more), -1 - sixty.length());
            t.due("no rates", y.count(1), 0);
        }
        Run wrongLast = new Run();
        t.due("the last that may be is wrong", wrongLast.readText(sixty.substring(0, 490) + "R 9 2 0 0\n"), -491);
        Run wrongFirst = new Run();
        t.due("the first is wrong, and one is too many", wrongFirst.readText("Q" + sixty.substring(1) + "R 0 3 1 0\n"), -1);
    }

    private static void fiftySteps() {
        t.sentence("READING takes all lines (at most 60)");
        StringBuilder lines = new StringBuilder();
        for (int i = 0; i < 50; i++) {
            lines.append("R ").append(i / 9).append(" 0 ").append(i % 9 + 1).append(' ').append(i % 7 + 1).append('\n');
        }
        Run x = new Run();
        x.shipment(0, 5, 0);
        x.shipment(0, 15, 0);
        t.due("as many steps as fit in 512 calls", x.readText(lines.toString()), 50);
        t.due("the last of them", x.price(0, 5), 1);
        t.due("and not one more", x.price(0, 6), -1);
        t.due("three parcels by the last of them", x.parcels(1, 5), 3);
    }

    private static void aTextWithoutSigns() {
        t.sentence("A text without signs is right");
        Run x = Run.withRates("R 1 0 10 7\nD 1 2\n");
        x.shipment(0, 1, 4);
        t.due("read", x.read(), 0);
        t.due("lines", x.count(1), 0);
        t.due("the steps are gone", x.price(0, 1), -1);
        t.due("the divisor is gone", x.weight(0, 1), 1);
        t.due("the shipment stays", x.count(2), 1);
        t.due("read again", x.read(), 0);
    }

    private static void thePlaceOfTheFirstWrongLine() {
        t.sentence("-1 less the place (0, 1, ..) of the first sign of the first line that is not as said");
        wrong("Q");
        wrong("R 0 0 1 x\nR 0 0 1 0\n");
        wrongBehind("M 0 1\n", "Q\nQ\n");
        wrongBehind("M 0 1\n", "\n");
        wrongBehind("M 0 1\n", "M 1 1");
        wrongBehind("M 0 1\nM 1 12345\n", "M 2 1000001\nM 1 1\n");
        wrongBehind("M 8 5\nR 8 1 2 3\nF 8 10 100\n", "D 8 x\n");
        t.due("two lines", new Run().readText("M 0 1\nM 1 1\n"), 2);
    }

    private static void ratesInsteadOfEarlierOnes() {
        t.sentence("then its lines are the RATES instead of earlier ones");
        Run x = Run.withRates("R 1 0 10 7\nD 1 2\nM 1 5\nF 1 1 2\n");
        x.shipment(0, 4, 10);
        t.due("by the first rates", x.price(0, 1), 11);
        t.due("a right text", x.readText("R 1 0 10 3\n"), 1);
        t.due("lines", x.count(1), 1);
        t.due("no divisor, fuel share or minimum stays", x.price(0, 1), 3);
        t.due("no divisor stays", x.weight(0, 1), 4);
        t.due("a third text", x.readText("D 1 5\nM 1 5\n"), 2);
        t.due("no step stays", x.price(0, 1), -1);
        t.due("nor for parcels", x.parcels(0, 1), -1);
        t.due("a fourth text", x.readText("R 1 0 10 3\n"), 1);
        t.due("nothing of the first comes back", x.price(0, 1), 3);
    }

    private static void nothingChanges() {
        t.sentence("Else nothing changes");
        Run x = Run.withRates("R 1 0 10 7\nD 1 2\nM 1 5\nF 1 1 2\n");
        x.shipment(0, 4, 10);
        x.shipment(0, 4, 10);
        x.contract(1, 1, 1, 2);
        x.currency(5, 1, 2);
        x.book(0, 1);
        x.invoice(0, 9);
        t.wrongText(x, "R 1 0 10 9\nR 1 0 11 9\nD 2 9\nF 2 1 1\nM 1 1000001\n", 36);
        t.wrongText(x, "D 1 0\nM 1 0\nF 1 0 1\nR 1 0 99 1\nF 2 2 1\n", 31);
        t.wrongText(x, "F 1 0 1\nF 1 0 1\n", 8);
        t.wrongText(x, "\n", 0);
    }

    private static void theSignsAreGone() {
        t.sentence("The signs are gone in either case");
        Run x = new Run();
        t.due("a right text", x.readText("M 0 0\n"), 1);
        t.due("no signs", x.count(0), 0);
        t.due("signs are told anew", x.sign('M'), 1);
        t.due("a wrong text", x.read(), -1);
        t.due("no signs", x.count(0), 0);
        t.due("an empty text behind it", x.read(), 0);
        t.due("a part of a text", x.readText("M 0 "), -1);
        t.due("its rest alone", x.readText("0\n"), -1);
    }

    private static void right(String text, int lines) {
        Run x = new Run();
        t.due("read of " + Checks.shown(text), x.readText(text), lines);
        t.due("lines of " + Checks.shown(text), x.count(1), lines);
        t.due("signs behind " + Checks.shown(text), x.count(0), 0);
    }

    private static void wrong(String line) {
        wrongBehind("", line);
        wrongBehind("M 8 5\nR 8 1 2 3\n", line);
    }

    /** A right text and then a wrong line, told to an object with rates of its own. */
    private static void wrongBehind(String before, String line) {
        Run x = Run.withRates("R 3 0 9 5\nD 3 2\nM 4 1\n");
        x.shipment(0, 1, 4);
        t.wrongText(x, before + line, before.length());
    }
}
