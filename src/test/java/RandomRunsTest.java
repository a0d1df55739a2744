import java.util.Map;
import java.util.Random;
import java.util.TreeMap;

/** Runs of 512 random calls, seeded, on the class and on PlainModel: every answer and exception must be the same. */
public final class RandomRunsTest {
    private static final int RUNS = 6000;
    private static final int CALLS = 512;
    private static final String LETTERS = "RRRRRRDMF";
    private static final int[] EXTREMES = {
        -1, 0, 1, 5, 6, 9, 10, 19, 20, 100, 101, 600, 1000, 1001, 10000, 10001, 100000, 100001, 1000000, 1000001,
        10000000, 10000001, 100000000, 100000001, Integer.MAX_VALUE, Integer.MIN_VALUE,
    };

    private final Checks t;
    private final Random random;
    private final RateBreaks x = new RateBreaks();
    private final PlainModel model = new PlainModel();
    private final Map<String, Integer> seen;
    private final int run;
    private final int services;
    private final int zones;
    private int calls = 0;

    private RandomRunsTest(Checks t, Map<String, Integer> seen, int run) {
        this.t = t;
        this.seen = seen;
        this.run = run;
        random = new Random(run);
        services = 1 + random.nextInt(4);
        zones = 1 + random.nextInt(2);
    }

    public static void main(String[] args) {
        Checks t = new Checks();
        Map<String, Integer> seen = new TreeMap<>();
        for (int run = 0; run < RUNS && t.wrong() < 20; run++) {
            new RandomRunsTest(t, seen, run).play();
        }
        String[] wanted = {
            "sign throws.IllegalArgumentException", "weight throws.ArithmeticException", "price throws.ArithmeticException",
            "book throws.ArithmeticException", "book throws.IllegalStateException", "book answers", "combine answers",
            "shipment throws.UnsupportedOperationException", "contract throws.UnsupportedOperationException",
            "currency throws.UnsupportedOperationException", "refund answers", "differ answers", "parcels answers",
            "read answers", "read refuses", "parcels refuses", "cheapest refuses", "converted refuses",
        };
        for (String kind : wanted) {
            if (seen.getOrDefault(kind, 0) < 50) {
                t.complain("the runs hardly show: " + kind);
            }
        }
        t.finish();
    }

    private void play() {
        tellText();
        while (calls < CALLS) {
            if (random.nextInt(60) == 0) {
                tellText();
            } else if (random.nextInt(12) == 0) {
                call(random.nextInt(17), extreme(), extreme(), extreme(), extreme());
            } else {
                usualCall();
            }
        }
    }

    private void tellText() {
        StringBuilder text = new StringBuilder();
        int lines = random.nextInt(14);
        int weight = 0;
        for (int i = 0; i < lines; i++) {
            char letter = LETTERS.charAt(random.nextInt(LETTERS.length()));
            weight += random.nextInt(random.nextBoolean() ? 5 : 400);
            text.append(letter).append(' ').append(random.nextInt(services));
            if (letter == 'R') {
                text.append(' ').append(random.nextInt(zones)).append(' ').append(weight);
                text.append(' ').append(random.nextInt(300));
            } else if (letter == 'F') {
                text.append(' ').append(random.nextInt(9)).append(' ').append(8 + random.nextInt(9));
            } else {
                text.append(' ').append(letter == 'D' ? random.nextInt(6) : random.nextInt(300));
            }
            text.append('\n');
        }
        if (text.length() > 0 && random.nextInt(4) == 0) {
            text.setCharAt(random.nextInt(text.length()), " \n0129RDMFx".charAt(random.nextInt(11)));
        }
        for (int i = 0; i < text.length(); i++) {
            call(0, text.charAt(i), 0, 0, 0);
        }
        call(1, 0, 0, 0, 0);
    }

    private void usualCall() {
        int s = random.nextInt(20);
        int service = random.nextInt(services);
        switch (random.nextInt(15)) {
            case 0: call(2, random.nextInt(zones), 1 + random.nextInt(900), random.nextInt(2000), 0); break;
            case 1: call(2, random.nextInt(zones), 1 + random.nextInt(100000), random.nextInt(100000001), 0); break;
            case 2: call(3, s, service, 0, 0); break;
            case 3: call(4, s, service, 0, 0); break;
            case 4: call(5, s, 0, 0, 0); break;
            case 5: call(6, s, service, 0, 0); break;
            case 6: call(7, service, random.nextInt(6), random.nextInt(5), 1 + random.nextInt(9)); break;
            case 7: call(8, s, service, 0, 0); break;
            case 8: call(9, s, random.nextInt(20), 0, 0); break;
            case 9: call(10, s, random.nextInt(300), 0, 0); break;
            case 10: call(11, s, 1 + random.nextInt(60), 0, 0); break;
            case 11: call(12, random.nextInt(5), 0, 0, 0); break;
            case 12: call(13, random.nextInt(12), 1 + random.nextInt(50), 1 + random.nextInt(50), 0); break;
            case 13: call(14, random.nextInt(10000001), random.nextInt(15), 0, 0); break;
            default: call(random.nextBoolean() ? 15 : 16, random.nextInt(6), random.nextInt(6), 0, 0); break;
        }
    }

    private int extreme() {
        return random.nextBoolean() ? random.nextInt(4) : EXTREMES[random.nextInt(EXTREMES.length)];
    }

    private void call(int which, int a, int b, int c, int d) {
        if (calls >= CALLS) {
            return;
        }
        calls++;
        String[] names = {
            "sign", "read", "shipment", "weight", "price", "cheapest", "parcels", "contract", "book", "combine",
            "invoice", "refund", "differ", "currency", "converted", "told", "count",
        };
        String got = Checks.outcome(() -> onClass(which, a, b, c, d));
        String want = Checks.outcome(() -> onModel(which, a, b, c, d));
        String shown = names[which] + "(" + a + ", " + b + ", " + c + ", " + d + ")";
        t.same("run " + run + ", call " + calls + ": " + shown, got, want);
        String kind = got.startsWith("throws") ? got : got.startsWith("-") ? "refuses" : "answers";
        seen.merge(names[which] + " " + kind, 1, Integer::sum);
    }

    private long onClass(int which, int a, int b, int c, int d) {
        try {
            return answerOfClass(which, a, b, c, d);
        } catch (ArithmeticException e) {
            if ("/ by zero".equals(e.getMessage())) {
                t.complain("the machine itself divided by 0");
            }
            throw e;
        }
    }

    private long answerOfClass(int which, int a, int b, int c, int d) {
        switch (which) {
            case 0: return x.sign(a);
            case 1: return x.read();
            case 2: return x.shipment(a, b, c);
            case 3: return x.weight(a, b);
            case 4: return x.price(a, b);
            case 5: return x.cheapest(a);
            case 6: return x.parcels(a, b);
            case 7: return x.contract(a, b, c, d);
            case 8: return x.book(a, b);
            case 9: return x.combine(a, b);
            case 10: return x.invoice(a, b);
            case 11: return x.refund(a, b);
            case 12: return x.differ(a);
            case 13: return x.currency(a, b, c);
            case 14: return x.converted(a, b);
            case 15: return x.told(a, b);
            default: return x.count(a);
        }
    }

    private long onModel(int which, int a, int b, int c, int d) {
        switch (which) {
            case 0: return model.sign(a);
            case 1: return model.read();
            case 2: return model.shipment(a, b, c);
            case 3: return model.weight(a, b);
            case 4: return model.price(a, b);
            case 5: return model.cheapest(a);
            case 6: return model.parcels(a, b);
            case 7: return model.contract(a, b, c, d);
            case 8: return model.book(a, b);
            case 9: return model.combine(a, b);
            case 10: return model.invoice(a, b);
            case 11: return model.refund(a, b);
            case 12: return model.differ(a);
            case 13: return model.currency(a, b, c);
            case 14: return model.converted(a, b);
            case 15: return model.told(a, b);
            default: return model.count(a);
        }
    }
}
