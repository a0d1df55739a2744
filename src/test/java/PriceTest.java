import java.util.Arrays;
import java.util.Random;

/** Promises 4 to 8, the weight to pay and the price of "Terms": shipment, weight, price, cheapest, parcels. */
public final class PriceTest {
    private static final Checks t = new Checks();
    private static final int[] NO_SHIPMENTS = {-1, 1, 3, 19, 20, Integer.MIN_VALUE, Integer.MAX_VALUE};
    private static final int[] NO_SERVICES = {-1, 10, Integer.MIN_VALUE, Integer.MAX_VALUE};

    public static void main(String[] args) {
        rangesOfShipments();
        twentyShipments();
        weightToPay();
        noSuchServiceOrShipment();
        divisorOfZero();
        firstStepNotBelow();
        noStep();
        fuelShares();
        minima();
        contractsInAPrice();
        theGreatestPrice();
        theLeastPrice();
        noneIsCheapest();
        passedOver();
        oneToThreeParcels();
        stepsOfParcels();
        noOtherChargesOnParcels();
        noParcels();
        parcelsAgainstAllPartings();
        t.finish();
    }

    private static void rangesOfShipments() {
        t.sentence("A shipment: a zone, grams 1 .. 100000, a volume 0 .. 100000000");
        Run x = new Run();
        t.due("the least of all", x.shipment(0, 1, 0), 0);
        t.due("the greatest of all", x.shipment(9, 100000, 100000000), 1);
        int[] least = {0, 1, 0};
        int[] greatest = {9, 100000, 100000000};
        for (int what = 0; what <= 2; what++) {
            t.due("of the least", x.told(0, what), least[what]);
            t.due("of the greatest", x.told(1, what), greatest[what]);
        }
        for (int zone : new int[] {-1, 10, Integer.MIN_VALUE, Integer.MAX_VALUE}) {
            t.refused("no zone", Checks.ARGUMENT, x, "shipment", zone, 1, 0);
        }
        for (int grams : new int[] {0, -1, 100001, Integer.MIN_VALUE, Integer.MAX_VALUE}) {
            t.refused("grams outside", Checks.ARGUMENT, x, "shipment", 0, grams, 0);
        }
        for (int volume : new int[] {-1, 100000001, Integer.MIN_VALUE, Integer.MAX_VALUE}) {
            t.refused("a volume outside", Checks.ARGUMENT, x, "shipment", 0, 1, volume);
        }
        t.due("the next number", x.shipment(0, 1, 0), 2);
    }

    private static void twentyShipments() {
        t.sentence("its number (0, 1, .., at most 20 ever)");
        Run x = Run.withRates("R 0 0 9 4\n");
        for (int n = 0; n < 20; n++) {
            t.due("shipment", x.shipment(0, 1, n), n);
        }
        t.due("the last one", x.told(19, 2), 19);
        t.due("the last one's price", x.price(19, 0), 4);
        t.refused("one more", Checks.ROOM, x, "shipment", 0, 1, 0);
        t.refused("one more, of no zone", Checks.ARGUMENT, x, "shipment", 10, 1, 0);
        t.refused("one more, without grams", Checks.ARGUMENT, x, "shipment", 0, 0, 0);
        t.refused("one more, of too great a volume", Checks.ARGUMENT, x, "shipment", 0, 1, 100000001);
        x.combine(0, 19);
        t.refused("one that is gone makes no room", Checks.ROOM, x, "shipment", 0, 1, 0);
        x.book(0, 0);
        t.refused("nor does one that is booked", Checks.ROOM, x, "shipment", 0, 1, 0);
        Run y = new Run();
        y.shipments(2, 0, 1, 0);
        y.combine(0, 1);
        t.due("the number of one that is gone is not given again", y.shipment(0, 1, 0), 2);
    }

    private static void weightToPay() {
        t.sentence("its grams; if the service has a divisor and this is more: its volume divided by the divisor, rounded up");
        Run x = Run.withRates("D 0 5\nD 1 1\nD 2 100000\n");
        int[][] volumeAndWeight = {{0, 400}, {1, 400}, {1999, 400}, {2000, 400}, {2001, 401}, {2004, 401}, {2005, 401}, {2006, 402}};
        for (int n = 0; n < volumeAndWeight.length; n++) {
            x.shipment(0, 400, volumeAndWeight[n][0]);
            t.due("volume " + volumeAndWeight[n][0], x.weight(n, 0), volumeAndWeight[n][1]);
            t.due("no divisor", x.weight(n, 9), 400);
        }
        int light = (int) x.shipment(0, 1, 100000000);
        t.due("the greatest weight by volume", x.weight(light, 1), 100000000);
        t.due("the greatest divisor", x.weight(light, 2), 1000);
        int heavy = (int) x.shipment(0, 100000, 99999);
        t.due("grams above the volume", x.weight(heavy, 1), 100000);
        int small = (int) x.shipment(0, 1, 1);
        t.due("the least volume by the greatest divisor", x.weight(small, 2), 1);
        int more = (int) x.shipment(0, 1, 100001);
        t.due("a rest of one", x.weight(more, 2), 2);
    }

    private static void noSuchServiceOrShipment() {
        t.sentence("IllegalArgumentException: no such service; NoSuchElementException: a shipment that there is not (any more)");
        Run x = Run.withRates("R 0 0 5 1\nR 9 0 5 2\nD 0 0\n");
        x.shipments(3, 0, 1, 1);
        x.combine(0, 1);
        for (String name : new String[] {"weight", "price", "parcels"}) {
            for (int shipment : NO_SHIPMENTS) {
                t.refused("no shipment", Checks.NONE, x, name, shipment, 9);
                t.refused("no shipment, by divisor 0", Checks.NONE, x, name, shipment, 0);
                t.refused("no shipment, no service", Checks.NONE, x, name, shipment, 10);
                t.refused("no shipment, no service", Checks.NONE, x, name, shipment, -1);
            }
            for (int service : NO_SERVICES) {
                t.refused("no service", Checks.ARGUMENT, x, name, 0, service);
                t.refused("no service", Checks.ARGUMENT, x, name, 2, service);
            }
        }
        for (int shipment : NO_SHIPMENTS) {
            t.refused("no shipment", Checks.NONE, x, "cheapest", shipment);
        }
        t.due("the last service's weight", x.weight(0, 9), 2);
        t.due("the last service's price", x.price(2, 9), 2);
        t.due("the last service's parcels", x.parcels(2, 9), 2);
        t.due("the first service's parcels", x.parcels(2, 0), 1);
    }

    private static void divisorOfZero() {
        t.sentence("ArithmeticException (the machine's own): its divisor is 0");
        Run x = Run.withRates("R 0 0 5 1\nD 0 0\nD 9 0\nM 9 1\nR 1 0 5 1\nD 1 1\n");
        x.shipment(0, 1, 4);
        x.shipment(0, 1, 0);
        x.shipment(1, 1, 4);
        x.contract(0, 0, 0, 1);
        for (String name : new String[] {"weight", "price"}) {
            for (int shipment = 0; shipment < 3; shipment++) {
                t.refused("divisor 0, shipment " + shipment, Checks.DIVISOR, x, name, shipment, 0);
                t.refused("divisor 0 and no step, shipment " + shipment, Checks.DIVISOR, x, name, shipment, 9);
            }
        }
        t.due("the least divisor that divides", x.weight(0, 1), 4);
        x.readText("R 0 0 5 1\n");
        t.due("gone with its rates", x.price(0, 0), 0);
    }

    private static void firstStepNotBelow() {
        t.sentence("that of the service's first step of the shipment's zone whose weight is not below the weight to pay");
        Run x = Run.withRates("R 1 0 500 30\nR 2 0 600 1\nR 1 1 700 2\nR 1 0 1000 20\nR 1 0 1001 40\nD 1 5\n");
        int[][] gramsVolumeCents = {
            {1, 0, 30}, {499, 0, 30}, {500, 0, 30}, {501, 0, 20}, {1000, 0, 20}, {1001, 0, 40},
            {1, 2500, 30}, {1, 2501, 20}, {500, 2505, 20}, {1, 5000, 20}, {1, 5001, 40}, {1, 5005, 40},
        };
        for (int n = 0; n < gramsVolumeCents.length; n++) {
            x.shipment(0, gramsVolumeCents[n][0], gramsVolumeCents[n][1]);
            t.due("price of " + Arrays.toString(gramsVolumeCents[n]), x.price(n, 1), gramsVolumeCents[n][2]);
        }
        int other = (int) x.shipment(1, 1, 0);
        t.due("another zone", x.price(other, 1), 2);
        t.due("another service", x.price(0, 2), 1);
    }

    private static void noStep() {
        t.sentence("The price; -1 if there is no step for it");
        Run x = Run.withRates("R 1 0 500 30\nR 9 9 500 30\nD 1 5\nM 1 9\nM 2 9\nF 2 1 1\n");
        x.shipment(0, 501, 0);
        x.shipment(0, 500, 2501);
        x.shipment(0, 1, 100000000);
        x.shipment(1, 1, 0);
        x.shipment(9, 500, 2501);
        x.contract(1, 0, 0, 1);
        x.contract(2, 0, 0, 1);
        t.due("a gram too much", x.price(0, 1), -1);
        t.due("too great a volume by one", x.price(1, 1), -1);
        t.due("the greatest volume", x.price(2, 1), -1);
        t.due("no step of the zone", x.price(3, 1), -1);
        t.due("no step of the service", x.price(0, 2), -1);
        t.due("no line of the service", x.price(0, 0), -1);
        t.due("the last zone by the last service", x.price(4, 9), 30);
    }

    private static void fuelShares() {
        t.sentence("to it comes it times up, divided by down, rounded up, if there is a fuel share");
        Run x = Run.withRates("R 0 0 9 300\nF 0 1 3\nR 1 0 9 301\nF 1 1 3\nR 2 0 9 299\nF 2 1 3\nR 3 0 9 1\nF 3 1 1000\n"
            + "R 4 0 9 0\nF 4 1 1\nR 5 0 9 7\nF 5 0 1000\nR 6 0 9 7\nF 6 3 3\nR 7 0 9 1000000\nF 7 999 1000\n");
        x.shipment(0, 1, 0);
        int[] due = {400, 402, 399, 2, 0, 7, 14, 1999000, -1, -1};
        for (int service = 0; service <= 9; service++) {
            t.due("price by " + service, x.price(0, service), due[service]);
        }
    }

    private static void minima() {
        t.sentence("it is the minimum at least, if there is one");
        Run x = Run.withRates("R 0 0 9 10\nM 0 9\nR 1 0 9 10\nM 1 10\nR 2 0 9 10\nM 2 11\nR 3 0 9 10\nM 3 0\nR 4 0 9 0\nM 4 0\n"
            + "R 5 0 9 10\nF 5 1 1\nM 5 19\nR 6 0 9 10\nF 6 1 1\nM 6 20\nR 7 0 9 10\nF 7 1 1\nM 7 21\n");
        x.shipment(0, 1, 0);
        int[] due = {10, 10, 11, 10, 0, 20, 20, 21, -1, -1};
        for (int service = 0; service <= 9; service++) {
            t.due("price by " + service, x.price(0, service), due[service]);
        }
    }

    private static void contractsInAPrice() {
        t.sentence("then, with a CONTRACT of the service .. it is it times up, divided by down, rounded up");
        Run x = Run.withRates("R 0 0 9 100\nR 1 0 9 100\nR 2 0 9 100\nM 2 1001\nR 3 0 9 100\nF 3 1 2\nR 4 0 9 0\n");
        x.shipment(0, 1, 0);
        t.due("without one", x.price(0, 0), 100);
        int[][] upDownCents = {
            {1, 1, 100}, {0, 1, 0}, {0, 1000, 0}, {1, 2, 50}, {1, 3, 34}, {2, 3, 67}, {1, 1000, 1}, {999, 1000, 100},
            {1000, 1000, 100},
        };
        for (int[] w : upDownCents) {
            x.contract(0, 0, w[0], w[1]);
            t.due("by the contract " + Arrays.toString(w), x.price(0, 0), w[2]);
        }
        t.due("no contract of this service", x.price(0, 1), 100);
        x.contract(2, 0, 1, 1000);
        t.due("a contract goes below the minimum", x.price(0, 2), 2);
        x.contract(3, 0, 1, 4);
        t.due("of the price with fuel", x.price(0, 3), 38);
        x.contract(4, 0, 1, 1);
        t.due("of nothing", x.price(0, 4), 0);
    }

    private static void theGreatestPrice() {
        t.sentence("The price");
        Run x = Run.withRates("R 9 9 100000 1000000\nF 9 1000 1000\nM 9 1000000\n");
        x.shipment(9, 100000, 100000000);
        t.due("cents and fuel", x.price(0, 9), 2000000);
        x.contract(9, 0, 1000, 1000);
        t.due("by a contract, which must not wrap around", x.price(0, 9), 2000000);
        x.contract(9, 0, 999, 1000);
        t.due("by a contract of nearly all", x.price(0, 9), 1998000);
        t.due("booked", x.book(0, 9), 1998000);
    }

    private static void theLeastPrice() {
        t.sentence("The service with the least price, of equal ones the lowest");
        Run x = Run.withRates("R 9 0 9 3\nR 8 0 5 7\nR 3 0 5 7\nR 5 0 5 6\nM 5 8\nR 1 1 5 1\nR 0 9 1 4\nR 9 9 1 4\n");
        x.shipment(0, 5, 0);
        x.shipment(0, 6, 0);
        x.shipment(1, 5, 0);
        x.shipment(9, 1, 0);
        t.due("the least, of the last service", x.cheapest(0), 9);
        t.due("the only step", x.cheapest(1), 9);
        t.due("another zone", x.cheapest(2), 1);
        t.due("the first and the last at one price", x.cheapest(3), 0);
        x.contract(3, 0, 3, 7);
        t.due("of equal prices the lowest service", x.cheapest(0), 3);
        x.contract(8, 0, 2, 7);
        t.due("less by a contract", x.cheapest(0), 8);
        x.contract(5, 0, 0, 7);
        t.due("a price of 0", x.cheapest(0), 5);
        x.contract(3, 0, 0, 7);
        t.due("two prices of 0", x.cheapest(0), 3);
        x.book(0, 9);
        t.due("of a booked shipment too", x.cheapest(0), 3);
    }

    private static void noneIsCheapest() {
        t.sentence("-1 if none has a step for it");
        Run x = Run.withRates("R 0 0 5 7\nR 9 0 5 7\nD 9 2\nM 1 1\n");
        x.shipment(0, 6, 0);
        x.shipment(1, 1, 0);
        x.shipment(0, 5, 11);
        x.contract(1, 0, 0, 1);
        t.due("too heavy by one", x.cheapest(0), -1);
        t.due("no step of its zone", x.cheapest(1), -1);
        t.due("too great a volume for the one", x.cheapest(2), 0);
        t.due("rates without lines", x.read(), 0);
        t.due("none", x.cheapest(2), -1);
    }

    private static void passedOver() {
        t.sentence("Services whose divisor is 0 are passed over");
        Run x = Run.withRates("R 0 0 5 1\nD 0 0\nR 1 0 5 9\nD 1 1\nR 9 0 5 0\nD 9 0\nR 9 1 5 0\nD 5 0\n");
        x.shipment(0, 1, 0);
        x.shipment(0, 1, 5);
        x.shipment(0, 1, 6);
        x.shipment(1, 1, 0);
        t.due("the dearer one", x.cheapest(0), 1);
        t.due("with a volume", x.cheapest(1), 1);
        t.due("too great a volume", x.cheapest(2), -1);
        t.due("none but such", x.cheapest(3), -1);
    }

    private static void oneToThreeParcels() {
        t.sentence("a shipment's grams parted into one to three parcels (whole grams, 1 at least each)");
        Run x = Run.withRates("R 0 0 10 5\nR 1 0 1 2\nR 2 0 1 2\nR 2 0 3 7\nR 3 0 1 9\nR 3 0 9 1\nR 4 0 33334 1\nR 5 0 33333 1\n");
        int[][] gramsServiceCents = {
            {1, 0, 5}, {10, 0, 5}, {11, 0, 10}, {20, 0, 10}, {21, 0, 15}, {30, 0, 15}, {31, 0, -1},
            {1, 1, 2}, {2, 1, 4}, {3, 1, 6}, {4, 1, -1}, {3, 2, 6}, {4, 2, 9}, {5, 2, 11}, {1, 3, 9}, {2, 3, 1},
            {100000, 4, 3}, {99999, 5, 3}, {100000, 5, -1},
        };
        for (int n = 0; n < gramsServiceCents.length; n++) {
            int[] w = gramsServiceCents[n];
            x.shipment(0, w[0], 0);
            t.due("parcels of " + w[0] + " by " + w[1], x.parcels(n, w[1]), w[2]);
        }
    }

    private static void stepsOfParcels() {
        t.sentence("each at the cents of the service's first step of its zone whose weight is not below the parcel's");
        Run x = Run.withRates("R 1 0 500 300\nR 1 1 9999 1\nR 2 0 9999 1\nR 1 0 1000 450\nR 3 0 3 10\nR 3 0 10 1\nR 3 0 11 0\n"
            + "R 0 0 33332 0\nR 0 0 33334 1000000\n");
        int[][] gramsServiceCents = {
            {500, 1, 300}, {501, 1, 450}, {1000, 1, 450}, {1001, 1, 750}, {1500, 1, 750}, {1501, 1, 900}, {2000, 1, 900},
            {3000, 1, 1350}, {3001, 1, -1}, {3, 3, 10}, {4, 3, 1}, {10, 3, 1}, {11, 3, 0}, {12, 3, 2}, {15, 3, 1}, {100000, 0, 2000000},
            {99996, 0, 0},
        };
        for (int n = 0; n < gramsServiceCents.length; n++) {
            int[] w = gramsServiceCents[n];
            x.shipment(0, w[0], 0);
            t.due("parcels of " + w[0] + " by " + w[1], x.parcels(n, w[1]), w[2]);
        }
        x.readText("R 3 0 3 8\n");
        t.due("steps of earlier rates are gone", x.parcels(10, 3), 16);
        t.due("steps of earlier rates are gone", x.parcels(12, 3), -1);
        x.book(9, 3);
        t.due("of a booked shipment too", x.parcels(9, 3), 8);
    }

    private static void noOtherChargesOnParcels() {
        t.sentence("(no divisor, fuel, minimum, contract)");
        Run x = Run.withRates("R 0 0 5 3\nD 0 0\nR 1 0 5 3\nD 1 1\nR 2 0 5 3\nF 2 1 1\nR 3 0 5 3\nM 3 9\nR 4 0 5 3\n");
        x.shipment(0, 5, 100000000);
        x.shipment(0, 6, 100000000);
        x.contract(4, 0, 0, 1);
        for (int service = 0; service <= 4; service++) {
            t.due("one parcel by " + service, x.parcels(0, service), 3);
            t.due("two parcels by " + service, x.parcels(1, service), 6);
        }
    }

    private static void noParcels() {
        t.sentence("-1 if that can't be");
        Run x = Run.withRates("R 0 0 5 3\nM 1 4\nR 9 9 1 1000000\n");
        x.shipment(0, 16, 0);
        x.shipment(1, 1, 0);
        x.shipment(9, 3, 0);
        x.shipment(9, 4, 0);
        t.due("a gram too much for three", x.parcels(0, 0), -1);
        t.due("no step of its zone", x.parcels(1, 0), -1);
        t.due("a service without steps", x.parcels(0, 1), -1);
        t.due("a service without lines", x.parcels(0, 8), -1);
        t.due("three of the dearest", x.parcels(2, 9), 3000000);
        t.due("four of them", x.parcels(3, 9), -1);
    }

    /** Every parting of small weights is tried gram by gram. */
    private static void parcelsAgainstAllPartings() {
        t.sentence("The least cost");
        Random random = new Random(8);
        for (int run = 0; run < 400; run++) {
            int[] cents = new int[31];
            Arrays.fill(cents, -1);
            StringBuilder lines = new StringBuilder();
            int below = 0;
            int steps = 1 + random.nextInt(6);
            for (int s = 0; s < steps; s++) {
                int weight = below + 1 + random.nextInt(4);
                int price = random.nextInt(20);
                lines.append("R 4 6 ").append(weight).append(' ').append(price).append('\n');
                lines.append("R 4 5 ").append(weight).append(" 0\n");
                lines.append("R 5 6 ").append(weight).append(" 0\n");
                Arrays.fill(cents, below + 1, weight + 1, price);
                below = weight;
            }
            Run x = Run.withRates(lines.toString());
            for (int n = 0; n < 20; n++) {
                int grams = n == 19 ? 3 * below + 1 : 1 + random.nextInt(3 * below + 2);
                x.shipment(6, grams, 0);
                t.due("parcels of " + grams + " by " + lines, x.parcels(n, 4), leastParting(cents, grams));
            }
        }
    }

    private static int leastParting(int[] cents, int grams) {
        int best = -1;
        for (int a = 1; a <= grams; a++) {
            for (int b = 0; a + b <= grams; b++) {
                int sum = together(cents, a, b, grams - a - b);
                if (sum >= 0 && (best < 0 || sum < best)) {
                    best = sum;
                }
            }
        }
        return best;
    }

    private static int together(int[] cents, int... parts) {
        int sum = 0;
        for (int part : parts) {
            if (part > 0 && (part >= cents.length || cents[part] < 0)) {
                return -1;
            }
            sum += part > 0 ? cents[part] : 0;
        }
        return sum;
    }
}
