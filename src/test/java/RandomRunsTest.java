import java.util.Map;
import java.util.Random;
import java.util.TreeMap;

/** Runs of 512 random calls, seeded, on the class and on PlainModel: every answer and exception must be the same. */
public final class RandomRunsTest {
    private static final int RUNS = 6000;
    private static final String[] NAMES = {
        "sign", "read", "shipment", "weight", "price", "cheapest", "parcels", "contract", "book", "combine", "invoice",
        "refund", "differ", "currency", "converted", "told", "count",
    };
    private static final String LETTERS = "RRRRRRDMF";
    private static final int[] EXTREMES = {
        -1, 0, 1, 5, 6, 9, 10, 19, 20, 100, 101, 600, 1000, 1001, 10000, 10001, 100000, 100001, 1000000, 1000001,
        10000000, 10000001, 100000000, 100000001, Integer.MAX_VALUE, Integer.MIN_VALUE,
    };

    private final Checks t;
    private final Random random;
    private final Run x = new Run();
    private final PlainModel model = new PlainModel();
    private final Map<String, Integer> seen;
    private final int run;
    private final int services;
    private final int zones;

    private RandomRunsTest(Checks t, Map<String, Integer> seen, int run) {
        this.t = t;
        this.seen = seen;
        this.run = run;
        random = new Random(run);
        services = 1 + random.nextInt(4);
        zones = 1 + random.nextInt(2);
    }

    public static void main(String[] args) {
        Checks t = new Checks();
        Map<String, Integer> seen = new TreeMap<>();
        for (int run = 0; run < RUNS && t.wrong() < 20; run++) {
            new RandomRunsTest(t, seen, run).play();
        }
        String[] wanted = {
            "sign throws.IllegalArgumentException", "weight throws.ArithmeticException", "price throws.ArithmeticException",
            "book throws.ArithmeticException", "book throws.IllegalStateException", "book answers", "combine answers",
            "shipment throws.UnsupportedOperationException", "contract throws.UnsupportedOperationException",
            "currency throws.UnsupportedOperationException", "refund answers", "differ answers", "parcels answers",
            "read answers", "read refuses", "parcels refuses", "cheapest refuses", "converted refuses",
        };
        for (String kind : wanted) {
            if (seen.getOrDefault(kind, 0) < 50) {
                t.complain("the runs hardly show: " + kind);
            }
        }
        t.finish();
    }

    private void play() {
        tellText();
        while (!x.isFull()) {
            if (random.nextInt(60) == 0) {
                tellText();
            } else if (random.nextInt(12) == 0) {
                call(NAMES[random.nextInt(NAMES.length)], extreme(), extreme(), extreme(), extreme());
            } else {
                usualCall();
            }
        }
    }

    private void tellText() {
        StringBuilder text = new StringBuilder();
        int lines = random.nextInt(14);
        int weight = 0;
        for (int i = 0; i < lines; i++) {
            char letter = LETTERS.charAt(random.nextInt(LETTERS.length()));
            weight += random.nextInt(random.nextBoolean() ? 5 : 400);
            text.append(letter).append(' ').append(random.nextInt(services));
            if (letter == 'R') {
                text.append(' ').append(random.nextInt(zones)).append(' ').append(weight);
                text.append(' ').append(random.nextInt(300));
            } else if (letter == 'F') {
                text.append(' ').append(random.nextInt(9)).append(' ').append(8 + random.nextInt(9));
            } else {
                text.append(' ').append(letter == 'D' ? random.nextInt(6) : random.nextInt(300));
            }
            text.append('\n');
        }
        if (text.length() > 0 && random.nextInt(4) == 0) {
            text.setCharAt(random.nextInt(text.length()), " \n0129RDMFx".charAt(random.nextInt(11)));
        }
        for (int i = 0; i < text.length(); i++) {
            call("sign", text.charAt(i));
        }
        call("read");
    }

    private void usualCall() {
        int s = random.nextInt(20);
        int service = random.nextInt(services);
        switch (random.nextInt(15)) {
            case 0: call("shipment", random.nextInt(zones), 1 + random.nextInt(900), random.nextInt(2000)); break;
            case 1: call("shipment", random.nextInt(zones), 1 + random.nextInt(100000), random.nextInt(100000001)); break;
            case 2: call("weight", s, service); break;
            case 3: call("price", s, service); break;
            case 4: call("cheapest", s); break;
            case 5: call("parcels", s, service); break;
            case 6: call("contract", service, random.nextInt(6), random.nextInt(5), 1 + random.nextInt(9)); break;
            case 7: call("book", s, service); break;
            case 8: call("combine", s, random.nextInt(20)); break;
            case 9: call("invoice", s, random.nextInt(300)); break;
            case 10: call("refund", s, 1 + random.nextInt(60)); break;
            case 11: call("differ", random.nextInt(5)); break;
            case 12: call("currency", random.nextInt(12), 1 + random.nextInt(50), 1 + random.nextInt(50)); break;
            case 13: call("converted", random.nextInt(10000001), random.nextInt(15)); break;
            default: call(random.nextBoolean() ? "told" : "count", random.nextInt(6), random.nextInt(6)); break;
        }
    }

    private int extreme() {
        return random.nextBoolean() ? random.nextInt(4) : EXTREMES[random.nextInt(EXTREMES.length)];
    }

    private void call(String name, int... n) {
        if (x.isFull()) {
            return;
        }
        Call call = new Call(name, n);
        String got = call.outcome(x);
        t.same("run " + run + ", " + call, got, call.outcome(model));
        String kind = got.startsWith("throws") ? got : got.startsWith("-") ? "refuses" : "answers";
        seen.merge(name + " " + kind, 1, Integer::sum);
    }
}
