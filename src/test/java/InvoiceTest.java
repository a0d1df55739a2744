import java.util.NoSuchElementException;

/** Promises 12 to 18: invoice, refund, differ, currency, converted, told, count. */
public final class InvoiceTest {
    private static final Checks t = new Checks();

    public static void main(String[] args) {
        invoices();
        refunds();
        differences();
        currencies();
        conversions();
        whatIsTold();
        counts();
        t.finish();
    }

    /** Shipments 0 to 5; all but 4 are booked, at 100 each. */
    private static RateBreaks booked() {
        RateBreaks x = Checks.withRates("R 7 0 9 100\n");
        for (int n = 0; n < 6; n++) {
            x.shipment(0, 1, 0);
            if (n != 4) {
                x.book(n, 7);
            }
        }
        return x;
    }

    private static void invoices() {
        RateBreaks x = booked();
        t.refused("of none", NoSuchElementException.class, () -> x.invoice(6, 10000001));
        t.refused("of -1", NoSuchElementException.class, () -> x.invoice(-1, 1));
        t.refused("below 0", IllegalArgumentException.class, () -> x.invoice(0, -1));
        t.refused("too many cents", IllegalArgumentException.class, () -> x.invoice(0, 10000001));
        t.refused("not booked", IllegalStateException.class, () -> x.invoice(4, 100));
        t.refused("not booked and too many cents", IllegalArgumentException.class, () -> x.invoice(4, 10000001));
        t.due("not invoiced", x.told(0, 5), -1);
        t.due("less than the price", x.invoice(0, 0), -100);
        t.due("the price", x.invoice(1, 100), 0);
        t.due("more than the price", x.invoice(2, 10000000), 9999900);
        t.refused("invoiced at 0", IllegalStateException.class, () -> x.invoice(0, 5));
        t.refused("invoiced", IllegalStateException.class, () -> x.invoice(2, 5));
        t.due("left of 0", x.told(0, 5), 0);
        t.due("left of all", x.told(2, 5), 10000000);
        Checks.read(x, "R 7 0 9 5\n");
        t.due("by the price at which it was booked", x.invoice(3, 105), 5);
    }

    private static void refunds() {
        RateBreaks x = booked();
        x.invoice(0, 10);
        x.invoice(1, 0);
        x.invoice(2, 10000000);
        t.refused("of none", NoSuchElementException.class, () -> x.refund(6, 0));
        t.refused("0", IllegalArgumentException.class, () -> x.refund(0, 0));
        t.refused("below 0", IllegalArgumentException.class, () -> x.refund(0, -1));
        t.refused("too many cents", IllegalArgumentException.class, () -> x.refund(0, 10000001));
        t.refused("more than is left", IllegalStateException.class, () -> x.refund(0, 11));
        t.refused("not invoiced", IllegalStateException.class, () -> x.refund(3, 1));
        t.refused("not booked", IllegalStateException.class, () -> x.refund(4, 1));
        t.refused("nothing is left of 0", IllegalStateException.class, () -> x.refund(1, 1));
        t.due("a part", x.refund(0, 4), 6);
        t.refused("more than is left now", IllegalStateException.class, () -> x.refund(0, 7));
        t.due("the rest", x.refund(0, 6), 0);
        t.refused("nothing is left", IllegalStateException.class, () -> x.refund(0, 1));
        t.refused("it stays invoiced", IllegalStateException.class, () -> x.invoice(0, 1));
        t.due("all at once", x.refund(2, 10000000), 0);
    }

    private static void differences() {
        RateBreaks x = booked();
        t.refused("below 0", IllegalArgumentException.class, () -> x.differ(-1));
        t.refused("far below 0", IllegalArgumentException.class, () -> x.differ(Integer.MIN_VALUE));
        t.due("none is invoiced", x.differ(0), -1);
        x.invoice(5, 101);
        x.invoice(3, 99);
        x.invoice(0, 100);
        x.invoice(1, 0);
        t.due("upward 0", x.differ(0), 1);
        t.due("upward 1", x.differ(1), 3);
        t.due("upward 2", x.differ(2), 5);
        t.due("no more", x.differ(3), -1);
        t.due("by far no more", x.differ(Integer.MAX_VALUE), -1);
        x.refund(5, 1);
        t.due("a refund makes them equal", x.differ(2), -1);
        x.refund(0, 1);
        t.due("a refund makes them differ", x.differ(0), 0);
    }

    private static void currencies() {
        RateBreaks x = new RateBreaks();
        int[][] wrong = {
            {-1, 1, 1}, {10001, 1, 1}, {0, 0, 1}, {0, -1, 1}, {0, 100001, 1}, {0, 1, 0}, {0, 1, -1}, {0, 1, 100001},
        };
        for (int[] w : wrong) {
            t.refused("currency " + java.util.Arrays.toString(w), IllegalArgumentException.class,
                () -> x.currency(w[0], w[1], w[2]));
        }
        t.due("the last day", x.currency(10000, 100000, 1), 1);
        t.due("the first day", x.currency(0, 1, 100000), 2);
        for (int n = 3; n <= 8; n++) {
            t.due("day " + n, x.currency(n * 10, 1, 1), n);
        }
        t.refused("a ninth day", UnsupportedOperationException.class, () -> x.currency(1, 1, 1));
        t.refused("a wrong ninth day", IllegalArgumentException.class, () -> x.currency(1, 0, 1));
        t.due("one of the eight again", x.currency(50, 3, 1), 8);
        t.due("by it", x.converted(7, 50), 21);
        t.due("the others stay", x.converted(7, 60), 7);
    }

    private static void conversions() {
        RateBreaks x = new RateBreaks();
        t.due("without", x.converted(5, 10000), -1);
        x.currency(20, 7, 2);
        x.currency(10, 1, 3);
        t.due("before the first day", x.converted(9, 9), -1);
        t.due("on its day", x.converted(9, 10), 3);
        t.due("rests dropped", x.converted(8, 19), 2);
        t.due("on the next day with one", x.converted(9, 20), 31);
        t.due("long behind", x.converted(9, 10000), 31);
        t.due("nothing", x.converted(0, 10), 0);
        t.refused("cents below 0", IllegalArgumentException.class, () -> x.converted(-1, 10));
        t.refused("too many cents", IllegalArgumentException.class, () -> x.converted(10000001, 10));
        t.refused("a day below 0", IllegalArgumentException.class, () -> x.converted(1, -1));
        t.refused("a day too late", IllegalArgumentException.class, () -> x.converted(1, 10001));
        t.refused("wrong cents on a day without", IllegalArgumentException.class, () -> x.converted(-1, 0));
        x.currency(30, 100000, 1);
        t.due("the most", x.converted(10000000, 30), 1000000000000L);
        x.currency(30, 99999, 100000);
        t.due("a rest of the most", x.converted(9999999, 30), 9999899);
    }

    private static void whatIsTold() {
        RateBreaks x = Checks.withRates("R 7 6 9 100\n");
        x.shipment(6, 5, 4);
        int[] before = {6, 5, 4, -1, -1, -1};
        int[] after = {6, 5, 4, 7, 100, 88};
        for (int what = 0; what < 6; what++) {
            t.due("told before, " + what, x.told(0, what), before[what]);
        }
        x.book(0, 7);
        x.invoice(0, 90);
        x.refund(0, 2);
        for (int what = 0; what < 6; what++) {
            t.due("told after, " + what, x.told(0, what), after[what]);
        }
        t.refused("told 6", IllegalArgumentException.class, () -> x.told(0, 6));
        t.refused("told -1", IllegalArgumentException.class, () -> x.told(0, -1));
        t.refused("told of none", NoSuchElementException.class, () -> x.told(1, 6));
        t.refused("told of -1", NoSuchElementException.class, () -> x.told(-1, 0));
    }

    private static void counts() {
        RateBreaks x = booked();
        x.shipment(0, 1, 0);
        x.sign(1);
        x.sign(10);
        x.invoice(0, 10000000);
        x.invoice(1, 10000000);
        x.invoice(2, 0);
        x.refund(1, 1);
        x.combine(4, 6);
        int[] due = {2, 1, 6, 5, 500, 19999999};
        for (int what = 0; what < 6; what++) {
            t.due("count " + what, x.count(what), due[what]);
        }
        int[] others = {-1, 6, Integer.MIN_VALUE, Integer.MAX_VALUE};
        for (int what : others) {
            t.due("count " + what, x.count(what), -1);
        }
    }
}
