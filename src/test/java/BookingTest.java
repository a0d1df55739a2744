import java.util.Arrays;

/** Promises 9 to 11 and the contracts of "Terms": contract, book, combine. */
public final class BookingTest {
    private static final Checks t = new Checks();

    public static void main(String[] args) {
        rangesOfContracts();
        toldAnewInstead();
        fourContracts();
        fromSoManyBookedOn();
        theGreatestNumberReached();
        countsOfEachService();
        bookedAtThePriceNow();
        bookedOrNoStep();
        bookedByDivisorZero();
        noSuchShipmentOrServiceToBook();
        everyShipmentBooked();
        combined();
        theSecondIsGone();
        asMuchAsAShipmentMayHave();
        refusedToCombine();
        noSuchShipmentToCombine();
        t.finish();
    }

    private static void rangesOfContracts() {
        t.sentence("from so many booked shipments on (0 .. 100) up (0 .. down) by down (1 .. 1000)");
        Run x = new Run();
        int[][] right = {{0, 0, 0, 1}, {9, 100, 1000, 1000}, {1, 1, 1, 1}, {2, 99, 999, 1000}, {3, 0, 0, 1000}};
        for (int[] w : right) {
            t.due("contract " + Arrays.toString(w), x.contract(w[0], w[1], w[2], w[3]), 1);
        }
        int[][] wrong = {
            {-1, 0, 0, 1}, {10, 0, 0, 1}, {Integer.MIN_VALUE, 0, 0, 1}, {Integer.MAX_VALUE, 0, 0, 1},
            {0, -1, 0, 1}, {0, 101, 0, 1}, {0, Integer.MIN_VALUE, 0, 1}, {0, Integer.MAX_VALUE, 0, 1},
            {0, 0, -1, 1}, {0, 0, 2, 1}, {0, 0, 1000, 999}, {0, 0, Integer.MIN_VALUE, 1}, {0, 0, Integer.MAX_VALUE, 1},
            {0, 0, 0, 0}, {0, 0, 1, 0}, {0, 0, 0, -1}, {0, 0, -1, -1}, {0, 0, -2, -1}, {0, 0, 0, 1001},
            {0, 0, 1001, 1001}, {0, 0, 1001, 1000}, {0, 0, 0, Integer.MIN_VALUE}, {0, 0, 0, Integer.MAX_VALUE},
        };
        for (int[] w : wrong) {
            t.refused("outside", Checks.ARGUMENT, x, "contract", w);
        }
    }

    private static void toldAnewInstead() {
        t.sentence("A contract of a service (told anew for the same number: instead)");
        Run x = Run.withRates("R 9 0 9 100\n");
        x.shipment(0, 1, 0);
        t.due("one", x.contract(9, 0, 1, 2), 1);
        t.due("by it", x.price(0, 9), 50);
        t.due("still one", x.contract(9, 0, 1, 4), 1);
        t.due("by the new one", x.price(0, 9), 25);
        t.refused("a wrong one", Checks.ARGUMENT, x, "contract", 9, 0, 5, 4);
        t.due("two", x.contract(9, 1, 1, 5), 2);
        t.due("the first again", x.contract(9, 0, 3, 4), 2);
        t.due("by it", x.book(0, 9), 75);
        t.due("and the second from one on", x.price(0, 9), 20);
    }

    private static void fourContracts() {
        t.sentence("UnsupportedOperationException: it has four others");
        Run x = Run.withRates("R 9 0 9 100\n");
        x.shipment(0, 1, 0);
        int[] froms = {100, 0, 50, 49};
        for (int n = 0; n < 4; n++) {
            t.due("contract " + (n + 1), x.contract(9, froms[n], 1, 2), n + 1);
        }
        for (int from : new int[] {1, 48, 51, 99}) {
            t.refused("a fifth number", Checks.ROOM, x, "contract", 9, from, 1, 3);
        }
        t.refused("a fifth number that may not be", Checks.ARGUMENT, x, "contract", 9, 101, 1, 3);
        t.refused("a fifth number, below 0", Checks.ARGUMENT, x, "contract", 9, -1, 1, 3);
        t.refused("a fifth number, up above down", Checks.ARGUMENT, x, "contract", 9, 1, 4, 3);
        t.refused("a fifth number, up below 0", Checks.ARGUMENT, x, "contract", 9, 1, -1, 3);
        t.refused("a fifth number, down 0", Checks.ARGUMENT, x, "contract", 9, 1, 0, 0);
        t.refused("a fifth number, down too great", Checks.ARGUMENT, x, "contract", 9, 1, 0, 1001);
        for (int from : froms) {
            t.due("one of the four anew", x.contract(9, from, 1, 5), 4);
        }
        t.due("by it", x.price(0, 9), 20);
        t.due("another service has room of its own", x.contract(8, 1, 1, 3), 1);
        t.due("the first service too", x.contract(0, 1, 1, 3), 1);
    }

    private static void fromSoManyBookedOn() {
        t.sentence("a CONTRACT of the service whose number is no greater than that of shipments booked by it so far");
        for (int from = 0; from <= 20; from++) {
            Run x = Run.withRates("R 1 0 9 100\n");
            x.shipments(20, 0, 1, 0);
            x.contract(1, from, 1, 2);
            for (int n = 0; n < 20; n++) {
                t.due("from " + from + ", booked " + n, x.book(n, 1), n < from ? 100 : 50);
            }
            t.due("from " + from + ", booked 20", x.price(0, 1), 50);
        }
        Run never = Run.withRates("R 1 0 9 100\n");
        never.shipments(20, 0, 1, 0);
        never.contract(1, 21, 1, 2);
        never.contract(1, 100, 1, 4);
        for (int n = 0; n < 20; n++) {
            t.due("a number that is not reached", never.book(n, 1), 100);
        }
        t.due("a number that is not reached", never.price(0, 1), 100);
    }

    private static void theGreatestNumberReached() {
        t.sentence("of these the greatest number");
        int[][] orders = {{0, 2, 3}, {3, 2, 0}, {2, 0, 3}};
        for (int[] order : orders) {
            Run x = Run.withRates("R 1 0 9 100\n");
            x.shipments(6, 0, 1, 0);
            for (int from : order) {
                x.contract(1, from, 10 - from, 10);
            }
            x.contract(1, 4, 99, 100);
            int[] due = {100, 100, 80, 70, 99, 99};
            for (int n = 0; n < 6; n++) {
                t.due("booked " + n + ", told in the order " + Arrays.toString(order), x.book(n, 1), due[n]);
            }
        }
    }

    private static void countsOfEachService() {
        t.sentence("that of shipments booked by it so far");
        Run x = Run.withRates("R 0 0 9 100\nR 9 0 9 100\n");
        x.shipments(5, 0, 1, 0);
        x.contract(0, 1, 1, 2);
        x.contract(9, 2, 1, 4);
        t.due("service 9, none booked", x.book(0, 9), 100);
        t.due("service 0, none booked", x.price(1, 0), 100);
        t.due("service 0 books", x.book(1, 0), 100);
        t.due("service 9, one booked", x.price(2, 9), 100);
        t.due("service 0, one booked", x.price(2, 0), 50);
        t.refused("a refused booking does not count", Checks.STATE, x, "book", 0, 9);
        t.due("service 9 books", x.book(2, 9), 100);
        t.due("service 9, two booked", x.price(3, 9), 25);
        x.invoice(0, 5);
        x.refund(0, 5);
        t.due("invoices and refunds do not count", x.price(3, 0), 50);
        t.due("rates anew", x.readText("R 9 0 9 200\n"), 1);
        t.due("what was booked and the contracts stay", x.price(3, 9), 50);
    }

    private static void bookedAtThePriceNow() {
        t.sentence("A shipment is booked by a service at its price now: that");
        Run x = Run.withRates("R 0 0 9 0\nR 9 0 9 90\nF 9 1 2\nM 9 140\nD 9 2\n");
        x.shipment(0, 9, 18);
        x.shipment(0, 9, 0);
        x.contract(9, 0, 1, 2);
        t.due("not booked", x.told(0, 3), -1);
        t.due("no price", x.told(0, 4), -1);
        t.due("with fuel, minimum and contract", x.book(0, 9), 70);
        t.due("its service", x.told(0, 3), 9);
        t.due("its price", x.told(0, 4), 70);
        t.due("by the first service for nothing", x.book(1, 0), 0);
        t.due("its service", x.told(1, 3), 0);
        t.due("its price", x.told(1, 4), 0);
        t.due("both are booked", x.count(3), 2);
        x.readText("R 9 0 9 1\n");
        t.due("the price at which it was booked stays", x.told(0, 4), 70);
        t.due("the price now is another", x.price(0, 9), 1);
    }

    private static void bookedOrNoStep() {
        t.sentence("IllegalStateException: it is booked, or there is no step for it");
        Run x = Run.withRates("R 0 0 9 5\nR 1 0 9 0\nD 1 1\n");
        x.shipment(0, 9, 10);
        x.shipment(0, 10, 0);
        x.shipment(1, 1, 0);
        x.shipment(0, 9, 9);
        x.contract(0, 1, 1, 5);
        t.refused("too heavy by one", Checks.STATE, x, "book", 1, 0);
        t.refused("too great a volume by one", Checks.STATE, x, "book", 0, 1);
        t.refused("no step of its zone", Checks.STATE, x, "book", 2, 0);
        t.refused("no step of the service", Checks.STATE, x, "book", 0, 9);
        t.due("booked for nothing", x.book(3, 1), 0);
        t.refused("booked for nothing", Checks.STATE, x, "book", 3, 1);
        t.due("booked by service 0", x.book(0, 0), 5);
        t.refused("booked by the same", Checks.STATE, x, "book", 0, 0);
        t.refused("booked by another", Checks.STATE, x, "book", 3, 0);
        t.refused("booked, and no step", Checks.STATE, x, "book", 0, 1);
        t.refused("booked, and no line", Checks.STATE, x, "book", 0, 9);
        x.invoice(0, 5);
        t.refused("invoiced", Checks.STATE, x, "book", 0, 0);
    }

    private static void bookedByDivisorZero() {
        t.sentence("ArithmeticException likewise");
        Run x = Run.withRates("R 0 0 9 5\nD 0 0\nD 9 0\nR 1 0 9 5\n");
        x.shipment(0, 1, 1);
        x.shipment(0, 1, 0);
        t.refused("divisor 0", Checks.DIVISOR, x, "book", 0, 0);
        t.refused("divisor 0 and no volume", Checks.DIVISOR, x, "book", 1, 0);
        t.refused("divisor 0 and no step", Checks.DIVISOR, x, "book", 0, 9);
        x.book(0, 1);
        t.refused("booked, and divisor 0", Checks.STATE, x, "book", 0, 0);
        t.refused("booked, divisor 0 and no step", Checks.STATE, x, "book", 0, 9);
    }

    private static void noSuchShipmentOrServiceToBook() {
        t.sentence("NoSuchElementException: a shipment that there is not (any more); IllegalArgumentException: no such service");
        Run x = Run.withRates("R 0 0 9 5\nD 9 0\n");
        x.shipments(4, 0, 1, 0);
        x.combine(0, 1);
        x.book(3, 0);
        for (int shipment : new int[] {-1, 1, 4, 19, 20, Integer.MIN_VALUE, Integer.MAX_VALUE}) {
            for (int service : new int[] {0, 8, 9, 10, -1}) {
                t.refused("no shipment", Checks.NONE, x, "book", shipment, service);
            }
        }
        for (int service : new int[] {-1, 10, Integer.MIN_VALUE, Integer.MAX_VALUE}) {
            t.refused("no service", Checks.ARGUMENT, x, "book", 0, service);
            t.refused("no service, booked", Checks.ARGUMENT, x, "book", 3, service);
        }
    }

    private static void everyShipmentBooked() {
        t.sentence("A shipment is booked by a service");
        Run x = Run.withRates("R 0 0 9 5\nR 9 0 9 6\n");
        x.shipments(20, 0, 1, 0);
        for (int n = 0; n < 20; n++) {
            t.due("shipment " + n, x.book(n, n % 2 * 9), 5 + n % 2);
        }
        t.due("all are booked", x.count(3), 20);
        t.due("their prices", x.count(4), 110);
        t.refused("the first again", Checks.STATE, x, "book", 0, 0);
        t.refused("the last again", Checks.STATE, x, "book", 19, 0);
    }

    private static void combined() {
        t.sentence("become one: .. the first one has the grams and volumes of both: its grams");
        Run x = Run.withRates("R 1 9 100 5\nD 1 10\n");
        x.shipments(20, 9, 2, 30);
        t.due("the last into the first", x.combine(0, 19), 4);
        t.due("grams", x.told(0, 1), 4);
        t.due("volume", x.told(0, 2), 60);
        t.due("zone", x.told(0, 0), 9);
        t.due("not booked", x.told(0, 3), -1);
        t.due("weight", x.weight(0, 1), 6);
        t.due("the first into another", x.combine(18, 0), 6);
        t.due("its volume", x.told(18, 2), 90);
        t.due("it can be booked", x.book(18, 1), 5);
        t.due("the others are as they were", x.told(1, 1), 2);
        Run none = new Run();
        none.shipments(2, 0, 1, 0);
        t.due("the first zone, without volume", none.combine(1, 0), 2);
        t.due("its volume", none.told(1, 2), 0);
    }

    private static void theSecondIsGone() {
        t.sentence("the second one is gone");
        Run x = Run.withRates("R 1 0 100 5\n");
        x.shipments(3, 0, 1, 0);
        x.combine(0, 1);
        t.due("shipments", x.count(2), 2);
        for (int what = 0; what <= 5; what++) {
            t.refused("gone", Checks.NONE, x, "told", 1, what);
        }
        for (String name : new String[] {"weight", "price", "parcels", "book", "invoice", "refund"}) {
            t.refused("gone", Checks.NONE, x, name, 1, 1);
        }
        t.refused("gone", Checks.NONE, x, "cheapest", 1);
        t.refused("gone, as the first", Checks.NONE, x, "combine", 1, 0);
        t.refused("gone, as the second", Checks.NONE, x, "combine", 0, 1);
        t.refused("gone, as both", Checks.NONE, x, "combine", 1, 1);
        t.due("the next number", x.shipment(0, 1, 0), 3);
    }

    private static void asMuchAsAShipmentMayHave() {
        t.sentence("or it would have more grams or volume than a shipment may");
        int[][] gramsVolumes = {
            {99999, 0, 1, 0}, {50000, 1, 50000, 2}, {1, 99999999, 1, 1}, {1, 100000000, 1, 0}, {99999, 50000000, 1, 50000000},
        };
        for (int[] w : gramsVolumes) {
            Run x = new Run();
            x.shipment(3, w[0], w[1]);
            x.shipment(3, w[2], w[3]);
            t.due("together " + Arrays.toString(w), x.combine(0, 1), w[0] + w[2]);
            t.due("volume", x.told(0, 2), w[1] + w[3]);
        }
        int[][] tooMuch = {
            {100000, 0, 1, 0}, {50000, 0, 50001, 0}, {1, 100000000, 1, 1}, {1, 50000000, 1, 50000001},
            {100000, 100000000, 100000, 100000000},
        };
        for (int[] w : tooMuch) {
            Run x = new Run();
            x.shipment(3, w[0], w[1]);
            x.shipment(3, w[2], w[3]);
            t.refused("too much " + Arrays.toString(w), Checks.STATE, x, "combine", 0, 1);
            t.refused("too much " + Arrays.toString(w), Checks.STATE, x, "combine", 1, 0);
        }
    }

    private static void refusedToCombine() {
        t.sentence("IllegalStateException: the same, booked, of different zones");
        Run x = Run.withRates("R 1 0 9 0\n");
        x.shipments(4, 0, 1, 0);
        x.shipment(1, 1, 0);
        x.book(2, 1);
        x.book(3, 1);
        t.refused("the same", Checks.STATE, x, "combine", 0, 0);
        t.refused("the same, booked", Checks.STATE, x, "combine", 2, 2);
        t.refused("the first is booked", Checks.STATE, x, "combine", 2, 0);
        t.refused("the second is booked", Checks.STATE, x, "combine", 0, 2);
        t.refused("both are booked", Checks.STATE, x, "combine", 2, 3);
        t.refused("different zones", Checks.STATE, x, "combine", 0, 4);
        t.refused("different zones, the other way", Checks.STATE, x, "combine", 4, 0);
        t.refused("different zones, booked", Checks.STATE, x, "combine", 4, 2);
        t.due("two that may", x.combine(1, 0), 2);
    }

    private static void noSuchShipmentToCombine() {
        t.sentence("NoSuchElementException: a shipment that there is not (any more)");
        Run x = Run.withRates("R 1 0 9 0\n");
        x.shipments(4, 0, 1, 0);
        x.book(2, 1);
        x.combine(0, 1);
        for (int none : new int[] {-1, 1, 4, 19, 20, Integer.MIN_VALUE, Integer.MAX_VALUE}) {
            t.refused("no first", Checks.NONE, x, "combine", none, 0);
            t.refused("no second", Checks.NONE, x, "combine", 0, none);
            t.refused("no first, the second is booked", Checks.NONE, x, "combine", none, 2);
            t.refused("no second, the first is booked", Checks.NONE, x, "combine", 2, none);
            t.refused("the same, that there is not", Checks.NONE, x, "combine", none, none);
        }
    }
}
