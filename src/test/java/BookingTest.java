import java.util.NoSuchElementException;

/** Promises 9 to 11: contract, book, combine. */
public final class BookingTest {
    private static final Checks t = new Checks();

    public static void main(String[] args) {
        contracts();
        contractsByBookings();
        bookings();
        combining();
        refusedCombining();
        t.finish();
    }

    private static void contracts() {
        RateBreaks x = new RateBreaks();
        int[][] wrong = {
            {-1, 0, 0, 1}, {10, 0, 0, 1}, {0, -1, 0, 1}, {0, 101, 0, 1}, {0, 0, -1, 1}, {0, 0, 2, 1}, {0, 0, 0, 0},
            {0, 0, 0, -1}, {0, 0, -2, -1}, {0, 0, 0, 1001}, {0, 0, 1001, 1001}, {0, 0, 1001, 1000},
            {Integer.MIN_VALUE, 0, 0, 1}, {0, Integer.MAX_VALUE, 0, 1},
        };
        for (int[] w : wrong) {
            t.refused("contract " + java.util.Arrays.toString(w), IllegalArgumentException.class,
                () -> x.contract(w[0], w[1], w[2], w[3]));
        }
        t.due("contract 1", x.contract(9, 100, 1000, 1000), 1);
        t.due("contract 2", x.contract(9, 0, 0, 1), 2);
        t.due("the same number again", x.contract(9, 100, 1, 2), 2);
        t.due("contract 3", x.contract(9, 50, 1, 2), 3);
        t.due("contract 4", x.contract(9, 49, 1, 2), 4);
        t.refused("a fifth number", UnsupportedOperationException.class, () -> x.contract(9, 48, 1, 2));
        t.refused("a wrong fifth number", IllegalArgumentException.class, () -> x.contract(9, 48, 3, 2));
        t.due("one of the four again", x.contract(9, 49, 1, 3), 4);
        t.due("another service has its own", x.contract(8, 48, 1, 3), 1);
    }

    private static void contractsByBookings() {
        RateBreaks x = Checks.withRates("R 1 0 9 100\nR 2 0 9 100\n");
        for (int n = 0; n < 6; n++) {
            x.shipment(0, 1, 0);
        }
        x.contract(1, 3, 1, 3);
        x.contract(1, 1, 1, 2);
        x.contract(1, 100, 0, 1);
        t.due("none is reached", x.price(0, 1), 100);
        t.due("booked at the price before it counts", x.book(0, 1), 100);
        t.due("from one on", x.book(1, 1), 50);
        t.due("another service's count", x.price(2, 2), 100);
        t.due("still the first", x.book(2, 1), 50);
        t.due("from three on, rounded up", x.price(3, 1), 34);
        t.due("told anew", x.contract(1, 3, 99, 100), 3);
        t.due("the new one instead", x.price(3, 1), 99);
        t.due("a contract from 2", x.contract(1, 2, 0, 5), 4);
        t.due("the greatest number reached, not the best price", x.price(3, 1), 99);
        t.due("rates come anew", Checks.read(x, "R 1 0 9 200\n"), 1);
        t.due("the contracts and what was booked stay", x.price(3, 1), 198);
        x.contract(2, 0, 0, 1);
        t.due("no step stays no step", x.price(3, 2), -1);
    }

    private static void bookings() {
        RateBreaks x = Checks.withRates("R 1 0 9 100\nR 2 0 9 50\nD 3 0\nR 3 0 9 1\nD 4 0\n");
        x.shipment(0, 9, 0);
        x.shipment(0, 10, 0);
        x.shipment(1, 1, 0);
        t.refused("book no shipment", NoSuchElementException.class, () -> x.book(3, 10));
        t.refused("book -1", NoSuchElementException.class, () -> x.book(-1, 1));
        t.refused("book by 10", IllegalArgumentException.class, () -> x.book(0, 10));
        t.refused("book by -1", IllegalArgumentException.class, () -> x.book(0, -1));
        t.refused("too heavy", IllegalStateException.class, () -> x.book(1, 1));
        t.refused("no step of its zone", IllegalStateException.class, () -> x.book(2, 1));
        t.refused("divisor 0", ArithmeticException.class, () -> x.book(0, 3));
        t.refused("divisor 0 without a step", ArithmeticException.class, () -> x.book(0, 4));
        t.due("none is booked", x.count(3), 0);
        t.due("its service", x.told(0, 3), -1);
        t.due("its price", x.told(0, 4), -1);
        t.due("booked", x.book(0, 1), 100);
        t.due("its service", x.told(0, 3), 1);
        t.due("its price", x.told(0, 4), 100);
        t.refused("booked by the same", IllegalStateException.class, () -> x.book(0, 1));
        t.refused("booked by another", IllegalStateException.class, () -> x.book(0, 2));
        t.refused("booked, by one of divisor 0", IllegalStateException.class, () -> x.book(0, 3));
        t.refused("booked, by none", IllegalArgumentException.class, () -> x.book(0, 10));
        Checks.read(x, "R 1 0 9 77\n");
        t.due("the price at which it was booked stays", x.told(0, 4), 100);
        t.due("the price now is another", x.price(0, 1), 77);
        x.contract(1, 1, 1, 7);
        t.due("refused bookings do not count", x.price(0, 1), 11);
        Checks.read(x, "R 0 0 10 0\n");
        t.due("booked for nothing", x.book(1, 0), 0);
        t.due("by service 0", x.told(1, 3), 0);
        t.due("at 0", x.told(1, 4), 0);
        t.due("two are booked", x.count(3), 2);
    }

    private static void combining() {
        RateBreaks x = Checks.withRates("R 1 3 100 5\n");
        x.shipment(3, 40, 7);
        x.shipment(3, 2, 8);
        x.shipment(3, 100, 9);
        t.due("the second into the first", x.combine(1, 0), 42);
        t.due("grams", x.told(1, 1), 42);
        t.due("volume", x.told(1, 2), 15);
        t.due("zone", x.told(1, 0), 3);
        t.due("two are left", x.count(2), 2);
        t.refused("the other is gone", NoSuchElementException.class, () -> x.told(0, 0));
        t.refused("gone for combine, first", NoSuchElementException.class, () -> x.combine(0, 1));
        t.refused("gone for combine, second", NoSuchElementException.class, () -> x.combine(1, 0));
        t.refused("gone for combine, both", NoSuchElementException.class, () -> x.combine(0, 0));
        t.refused("gone for book", NoSuchElementException.class, () -> x.book(0, 10));
        t.refused("gone for invoice", NoSuchElementException.class, () -> x.invoice(0, -1));
        t.refused("gone for refund", NoSuchElementException.class, () -> x.refund(0, -1));
        t.due("again", x.combine(1, 2), 142);
        t.due("the next number", x.shipment(3, 1, 0), 3);
        t.due("too heavy now", x.price(1, 1), -1);
        RateBreaks full = new RateBreaks();
        full.shipment(0, 99999, 99999999);
        full.shipment(0, 1, 1);
        t.due("the most that may be", full.combine(0, 1), 100000);
        t.due("and the most volume", full.told(0, 2), 100000000);
    }

    private static void refusedCombining() {
        RateBreaks x = Checks.withRates("R 1 0 100000 5\n");
        x.shipment(0, 50001, 0);
        x.shipment(0, 50000, 0);
        x.shipment(0, 1, 100000000);
        x.shipment(0, 1, 1);
        x.shipment(1, 1, 0);
        x.shipment(0, 1, 0);
        x.book(5, 1);
        t.refused("too many grams", IllegalStateException.class, () -> x.combine(0, 1));
        t.refused("too much volume", IllegalStateException.class, () -> x.combine(3, 2));
        t.refused("the same", IllegalStateException.class, () -> x.combine(3, 3));
        t.refused("different zones", IllegalStateException.class, () -> x.combine(3, 4));
        t.refused("the second is booked", IllegalStateException.class, () -> x.combine(3, 5));
        t.refused("the first is booked", IllegalStateException.class, () -> x.combine(5, 3));
        t.refused("both the same that there is not", NoSuchElementException.class, () -> x.combine(6, 6));
        t.refused("a first that there is not", NoSuchElementException.class, () -> x.combine(-1, 3));
        t.refused("a second that there is not", NoSuchElementException.class, () -> x.combine(5, 20));
        t.due("nothing was combined", x.count(2), 6);
        t.due("grams stay", x.told(0, 1), 50001);
        t.due("volumes stay", x.told(3, 2), 1);
    }
}
