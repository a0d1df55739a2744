import java.util.NoSuchElementException;

/** Promises 4 to 8: shipment, weight, price, cheapest, parcels. */
public final class PriceTest {
    private static final Checks t = new Checks();

    public static void main(String[] args) {
        shipments();
        weights();
        prices();
        refusals();
        cheapest();
        parcels();
        parcelsAgainstAllPartings();
        t.finish();
    }

    private static void shipments() {
        RateBreaks x = new RateBreaks();
        int[][] wrong = {
            {-1, 1, 0}, {10, 1, 0}, {0, 0, 0}, {0, -1, 0}, {0, 100001, 0}, {0, 1, -1}, {0, 1, 100000001},
            {Integer.MIN_VALUE, 1, 0}, {0, Integer.MAX_VALUE, 0}, {0, 1, Integer.MIN_VALUE},
        };
        for (int[] w : wrong) {
            t.refused("shipment of " + w[0] + ", " + w[1] + ", " + w[2], IllegalArgumentException.class,
                () -> x.shipment(w[0], w[1], w[2]));
        }
        t.due("the first shipment", x.shipment(9, 100000, 100000000), 0);
        for (int n = 1; n < 20; n++) {
            t.due("shipment " + n, x.shipment(0, 1, 0), n);
        }
        t.refused("shipment 20", UnsupportedOperationException.class, () -> x.shipment(0, 1, 0));
        t.refused("a wrong shipment 20", IllegalArgumentException.class, () -> x.shipment(0, 0, 0));
        x.combine(1, 2);
        t.refused("one that is gone makes no room", UnsupportedOperationException.class, () -> x.shipment(0, 1, 0));
        t.due("what the first one is", x.told(0, 0) + x.told(0, 1) + x.told(0, 2), 9 + 100000 + 100000000);
    }

    private static void weights() {
        RateBreaks x = Checks.withRates("D 1 5\nD 2 1\nD 3 100000\nD 4 0\n");
        x.shipment(0, 400, 2000);
        x.shipment(0, 400, 2001);
        x.shipment(0, 1, 100000000);
        x.shipment(0, 1, 0);
        t.due("volume by divisor is the grams", x.weight(0, 1), 400);
        t.due("rounded up", x.weight(1, 1), 401);
        t.due("the greatest weight", x.weight(2, 2), 100000000);
        t.due("a great divisor", x.weight(2, 3), 1000);
        t.due("no volume", x.weight(3, 1), 1);
        t.due("no divisor", x.weight(2, 0), 1);
        t.refused("divisor 0", ArithmeticException.class, () -> x.weight(0, 4));
        t.refused("divisor 0 and no volume", ArithmeticException.class, () -> x.weight(3, 4));
    }

    private static void prices() {
        RateBreaks x = Checks.withRates("R 1 0 500 300\nR 1 0 1000 250\nR 1 1 9 1\nR 2 0 500 10\nD 1 5\nF 1 1 3\nM 1 335\nM 2 11\nF 2 0 7\n");
        x.shipment(0, 500, 0);
        x.shipment(0, 501, 0);
        x.shipment(0, 1000, 5000);
        x.shipment(0, 1000, 5001);
        x.shipment(0, 1001, 0);
        x.shipment(1, 9, 0);
        x.shipment(2, 1, 0);
        t.due("a step's own weight", x.price(0, 1), 400);
        t.due("the next step, fuel rounded up, the minimum at least", x.price(1, 1), 335);
        t.due("the last step's weight by volume", x.price(2, 1), 335);
        t.due("too great a volume", x.price(3, 1), -1);
        t.due("too heavy", x.price(4, 1), -1);
        t.due("the minimum of a small price", x.price(5, 1), 335);
        t.due("another zone has no step, minimum or not", x.price(6, 1), -1);
        t.due("a fuel share of 0", x.price(0, 2), 11);
        t.due("no step of the service", x.price(0, 3), -1);
        Checks.read(x, "R 1 0 500 100\nF 1 1 3\nR 2 0 500 1000000\nF 2 1000 1000\nR 3 0 500 0\nF 3 1 1\nR 4 0 500 1\nF 4 1 1000\n");
        t.due("fuel rounded up", x.price(0, 1), 134);
        t.due("the greatest price", x.price(0, 2), 2000000);
        t.due("the least price", x.price(0, 3), 0);
        t.due("a little fuel", x.price(0, 4), 2);
        t.due("the greatest price by a contract of all", x.contract(2, 0, 1000, 1000), 1);
        t.due("the greatest price stays", x.price(0, 2), 2000000);
        x.contract(1, 0, 1, 1000);
        t.due("a contract rounded up", x.price(0, 1), 1);
        Checks.read(x, "R 1 0 500 100\nM 1 1001\n");
        t.due("a contract goes below the minimum", x.price(0, 1), 2);
    }

    private static void refusals() {
        RateBreaks x = Checks.withRates("R 0 0 5 1\nD 0 0\n");
        x.shipment(0, 1, 1);
        x.shipment(0, 1, 1);
        x.shipment(1, 1, 0);
        x.combine(0, 1);
        int[] none = {-1, 1, 3, 20, Integer.MAX_VALUE, Integer.MIN_VALUE};
        for (int n : none) {
            t.refused("weight of " + n, NoSuchElementException.class, () -> x.weight(n, 10));
            t.refused("price of " + n, NoSuchElementException.class, () -> x.price(n, -1));
            t.refused("cheapest of " + n, NoSuchElementException.class, () -> x.cheapest(n));
            t.refused("parcels of " + n, NoSuchElementException.class, () -> x.parcels(n, 10));
        }
        int[] services = {-1, 10, Integer.MAX_VALUE, Integer.MIN_VALUE};
        for (int s : services) {
            t.refused("weight by " + s, IllegalArgumentException.class, () -> x.weight(0, s));
            t.refused("price by " + s, IllegalArgumentException.class, () -> x.price(0, s));
            t.refused("parcels by " + s, IllegalArgumentException.class, () -> x.parcels(0, s));
        }
        t.refused("price by divisor 0", ArithmeticException.class, () -> x.price(0, 0));
        t.refused("price by divisor 0 without a step", ArithmeticException.class, () -> x.price(2, 0));
        t.due("parcels know no divisor", x.parcels(0, 0), 1);
    }

    private static void cheapest() {
        RateBreaks x = Checks.withRates("R 8 0 5 7\nR 3 0 5 7\nR 5 0 5 6\nR 1 1 5 1\nR 0 0 5 1\nD 0 0\nM 5 8\nR 9 0 9 3\n");
        x.shipment(0, 5, 0);
        x.shipment(0, 6, 0);
        x.shipment(0, 10, 0);
        x.shipment(1, 5, 0);
        t.due("the least price", x.cheapest(0), 9);
        t.due("the only step", x.cheapest(1), 9);
        t.due("no step", x.cheapest(2), -1);
        t.due("another zone", x.cheapest(3), 1);
        x.contract(3, 0, 3, 7);
        t.due("of equal prices the lowest service", x.cheapest(0), 3);
        x.contract(8, 0, 1, 7);
        t.due("a contract counts", x.cheapest(0), 8);
        x.contract(8, 0, 0, 7);
        t.due("a price of 0", x.cheapest(0), 8);
        x.book(0, 9);
        t.due("of a booked shipment too", x.cheapest(0), 8);
        Checks.read(x, "R 0 0 5 1\nD 0 0\n");
        t.due("all passed over", x.cheapest(0), -1);
    }

    private static void parcels() {
        RateBreaks x = Checks.withRates("R 1 0 500 300\nR 1 0 1000 450\nR 2 0 3 10\nR 2 0 10 1\nM 1 9999\nD 1 0\nF 1 1 1\nR 3 0 33333 2\n");
        x.shipment(0, 1100, 100000000);
        x.shipment(0, 3000, 0);
        x.shipment(0, 3001, 0);
        x.shipment(0, 3, 0);
        x.shipment(0, 4, 0);
        x.shipment(0, 99999, 0);
        x.shipment(0, 100000, 0);
        x.shipment(1, 1, 0);
        x.contract(1, 0, 0, 1);
        t.due("two parcels", x.parcels(0, 1), 750);
        t.due("three full parcels", x.parcels(1, 1), 1350);
        t.due("more than three", x.parcels(2, 1), -1);
        t.due("the dear step of a light parcel", x.parcels(3, 2), 10);
        t.due("the cheap step of a heavy one", x.parcels(4, 2), 1);
        t.due("three times the only step", x.parcels(5, 3), 6);
        t.due("a gram too much", x.parcels(6, 3), -1);
        t.due("another zone", x.parcels(7, 1), -1);
        t.due("no steps", x.parcels(0, 4), -1);
        x.book(3, 2);
        t.due("of a booked shipment too", x.parcels(3, 2), 10);
        Checks.read(x, "R 0 0 33332 0\nR 0 0 33334 1000000\n");
        t.due("the dearest parcels", x.parcels(6, 0), 2000000);
        RateBreaks fewer = Checks.withRates("R 0 0 1 5\nR 0 0 9 1\n");
        Checks.read(fewer, "");
        Checks.read(fewer, "R 0 0 1 5\n");
        fewer.shipment(0, 5, 0);
        t.due("steps of earlier rates are gone for parcels", fewer.parcels(0, 0), -1);
        t.due("and for the price", fewer.price(0, 0), -1);
    }

    /** Every parting of small weights is tried gram by gram. */
    private static void parcelsAgainstAllPartings() {
        java.util.Random random = new java.util.Random(8);
        for (int run = 0; run < 400; run++) {
            int[] cents = new int[31];
            java.util.Arrays.fill(cents, -1);
            StringBuilder lines = new StringBuilder();
            int below = 0;
            int steps = 1 + random.nextInt(6);
            for (int s = 0; s < steps; s++) {
                int weight = below + 1 + random.nextInt(4);
                int price = random.nextInt(20);
                lines.append("R 4 6 ").append(weight).append(' ').append(price).append('\n');
                lines.append("R 4 5 ").append(weight).append(" 0\n");
                lines.append("R 5 6 ").append(weight).append(" 0\n");
                java.util.Arrays.fill(cents, below + 1, weight + 1, price);
                below = weight;
            }
            RateBreaks x = Checks.withRates(lines.toString());
            for (int n = 0; n < 20; n++) {
                int grams = n == 19 ? 3 * below + 1 : 1 + random.nextInt(3 * below + 2);
                x.shipment(6, grams, 0);
                t.due("parcels of " + grams + " by " + lines, x.parcels(n, 4), leastParting(cents, grams));
            }
        }
    }

    private static int leastParting(int[] cents, int grams) {
        int best = -1;
        for (int a = 1; a <= grams; a++) {
            for (int b = 0; a + b <= grams; b++) {
                int c = grams - a - b;
                int[] parts = {a, b, c};
                int sum = 0;
                boolean can = true;
                for (int p : parts) {
                    if (p > 0) {
                        can &= p < cents.length && cents[p] >= 0;
                        sum += can ? cents[p] : 0;
                    }
                }
                if (can && (best < 0 || sum < best)) {
                    best = sum;
                }
            }
        }
        return best;
    }
}
