/** Promises 12 to 14: invoice, refund, differ. */
public final class InvoiceTest {
    private static final Checks t = new Checks();
    private static final int[] NO_SHIPMENTS = {-1, 7, 8, 19, 20, Integer.MIN_VALUE, Integer.MAX_VALUE};

    public static void main(String[] args) {
        centsOfAnInvoice();
        lessThePriceWhenBooked();
        notBookedOrInvoiced();
        noSuchShipmentToInvoice();
        centsOfARefund();
        whatIsLeft();
        notInvoicedOrMoreThanIsLeft();
        noSuchShipmentToRefund();
        upward();
        lessRefunds();
        notInvoicedOnesDoNotDiffer();
        theFirstAndTheLastDiffer();
        belowZero();
        t.finish();
    }

    /** Shipments 0 to 6; all but 4 are booked, at 100 each; 7 is gone. */
    private static Run booked() {
        Run x = Run.withRates("R 9 0 9 100\n");
        x.shipments(8, 0, 1, 0);
        x.combine(4, 7);
        for (int n = 0; n < 7; n++) {
            if (n != 4) {
                x.book(n, 9);
            }
        }
        return x;
    }

    private static void centsOfAnInvoice() {
        t.sentence("A carrier's invoice for a booked shipment (0 .. 10000000 cents)");
        Run x = booked();
        t.due("the least", x.invoice(0, 0), -100);
        t.due("the greatest", x.invoice(1, 10000000), 9999900);
        t.due("left of the least", x.told(0, 5), 0);
        t.due("left of the greatest", x.told(1, 5), 10000000);
        for (int cents : new int[] {-1, 10000001, Integer.MIN_VALUE, Integer.MAX_VALUE}) {
            t.refused("outside", Checks.ARGUMENT, x, "invoice", 2, cents);
            t.refused("outside, not booked", Checks.ARGUMENT, x, "invoice", 4, cents);
            t.refused("outside, was invoiced", Checks.ARGUMENT, x, "invoice", 0, cents);
        }
        t.due("not invoiced by that", x.told(2, 5), -1);
    }

    private static void lessThePriceWhenBooked() {
        t.sentence("the cents less the price at which it was booked");
        Run x = booked();
        t.due("the price", x.invoice(0, 100), 0);
        t.due("one more", x.invoice(1, 101), 1);
        t.due("one less", x.invoice(2, 99), -1);
        x.readText("R 9 0 9 5\n");
        t.due("not by the price now", x.invoice(3, 105), 5);
        x.contract(9, 0, 0, 1);
        t.due("nor by contracts told since", x.invoice(5, 105), 5);
        Run dear = Run.withRates("R 0 0 9 1000000\nF 0 1 1\nR 1 0 9 0\n");
        dear.shipments(2, 0, 1, 0);
        dear.book(0, 0);
        dear.book(1, 1);
        t.due("nothing for the dearest", dear.invoice(0, 0), -2000000);
        t.due("all for one booked at 0", dear.invoice(1, 10000000), 10000000);
    }

    private static void notBookedOrInvoiced() {
        t.sentence("IllegalStateException: it is not booked, or was invoiced");
        Run x = booked();
        t.refused("not booked", Checks.STATE, x, "invoice", 4, 100);
        t.refused("not booked", Checks.STATE, x, "invoice", 4, 0);
        x.invoice(0, 0);
        t.refused("invoiced at 0", Checks.STATE, x, "invoice", 0, 0);
        t.refused("invoiced at 0", Checks.STATE, x, "invoice", 0, 100);
        x.invoice(6, 50);
        t.refused("invoiced", Checks.STATE, x, "invoice", 6, 50);
        x.refund(6, 50);
        t.refused("all is refunded", Checks.STATE, x, "invoice", 6, 50);
    }

    private static void noSuchShipmentToInvoice() {
        t.sentence("NoSuchElementException: a shipment that there is not (any more)");
        Run x = booked();
        for (int shipment : NO_SHIPMENTS) {
            t.refused("no shipment", Checks.NONE, x, "invoice", shipment, 100);
            t.refused("no shipment, cents below", Checks.NONE, x, "invoice", shipment, -1);
            t.refused("no shipment, cents above", Checks.NONE, x, "invoice", shipment, 10000001);
        }
        t.due("the first one", x.invoice(0, 100), 0);
        t.due("the last one", x.invoice(6, 100), 0);
    }

    private static void centsOfARefund() {
        t.sentence("A refund (1 .. 10000000 cents) of an invoiced shipment");
        Run x = booked();
        x.invoice(0, 10000000);
        x.invoice(1, 10000000);
        x.invoice(2, 0);
        t.due("the least", x.refund(0, 1), 9999999);
        t.due("the greatest", x.refund(1, 10000000), 0);
        for (int cents : new int[] {0, -1, 10000001, Integer.MIN_VALUE, Integer.MAX_VALUE}) {
            t.refused("outside", Checks.ARGUMENT, x, "refund", 0, cents);
            t.refused("outside, nothing is left", Checks.ARGUMENT, x, "refund", 2, cents);
            t.refused("outside, not invoiced", Checks.ARGUMENT, x, "refund", 3, cents);
            t.refused("outside, not booked", Checks.ARGUMENT, x, "refund", 4, cents);
        }
    }

    private static void whatIsLeft() {
        t.sentence("what is left of its invoice");
        Run x = booked();
        x.invoice(6, 10);
        t.due("a part", x.refund(6, 4), 6);
        t.due("another", x.refund(6, 5), 1);
        t.due("the rest", x.refund(6, 1), 0);
        t.due("told", x.told(6, 5), 0);
        t.due("still booked", x.told(6, 3), 9);
    }

    private static void notInvoicedOrMoreThanIsLeft() {
        t.sentence("IllegalStateException: not invoiced, or more than is left");
        Run x = booked();
        x.invoice(0, 10);
        x.invoice(1, 0);
        t.refused("one more", Checks.STATE, x, "refund", 0, 11);
        t.refused("the greatest", Checks.STATE, x, "refund", 0, 10000000);
        t.refused("nothing was invoiced", Checks.STATE, x, "refund", 1, 1);
        t.refused("not invoiced", Checks.STATE, x, "refund", 2, 1);
        t.refused("not booked", Checks.STATE, x, "refund", 4, 1);
        x.refund(0, 4);
        t.refused("one more than is left now", Checks.STATE, x, "refund", 0, 7);
        t.due("just what is left", x.refund(0, 6), 0);
        t.refused("nothing is left", Checks.STATE, x, "refund", 0, 1);
    }

    private static void noSuchShipmentToRefund() {
        t.sentence("NoSuchElementException: a shipment that there is not (any more)");
        Run x = booked();
        for (int shipment : NO_SHIPMENTS) {
            t.refused("no shipment", Checks.NONE, x, "refund", shipment, 1);
            t.refused("no shipment, cents below", Checks.NONE, x, "refund", shipment, 0);
            t.refused("no shipment, cents above", Checks.NONE, x, "refund", shipment, 10000001);
        }
    }

    private static void upward() {
        t.sentence("The i-th shipment (upward) .. -1 if there are not so many");
        Run x = booked();
        t.due("none", x.differ(0), -1);
        x.invoice(5, 101);
        t.due("the only one", x.differ(0), 5);
        t.due("no second", x.differ(1), -1);
        x.invoice(3, 99);
        x.invoice(1, 0);
        x.invoice(0, 100);
        t.due("0", x.differ(0), 1);
        t.due("1", x.differ(1), 3);
        t.due("2", x.differ(2), 5);
        t.due("3", x.differ(3), -1);
        for (int i : new int[] {19, 20, 21, Integer.MAX_VALUE}) {
            t.due("by far not so many", x.differ(i), -1);
        }
    }

    private static void lessRefunds() {
        t.sentence("whose invoice, less refunds, is not the price at which it was booked");
        Run x = booked();
        x.invoice(0, 100);
        x.invoice(1, 101);
        x.invoice(2, 0);
        t.due("one cent more differs", x.differ(0), 1);
        x.refund(1, 1);
        t.due("a refund makes them equal", x.differ(0), 2);
        x.refund(0, 1);
        t.due("a refund makes them differ", x.differ(0), 0);
        t.due("then the next", x.differ(1), 2);
        t.due("and no more", x.differ(2), -1);
        x.readText("R 9 0 9 99\n");
        t.due("the price now is nothing to it", x.differ(0), 0);
    }

    private static void notInvoicedOnesDoNotDiffer() {
        t.sentence("whose invoice .. is not the price");
        Run x = Run.withRates("R 0 0 9 0\nR 1 0 9 1\n");
        x.shipments(4, 0, 1, 0);
        x.combine(0, 2);
        x.book(0, 0);
        x.book(1, 1);
        t.due("booked, not invoiced", x.differ(0), -1);
        x.invoice(0, 0);
        t.due("an invoice of 0 for a price of 0", x.differ(0), -1);
        x.invoice(1, 0);
        t.due("an invoice of 0 for a price of 1", x.differ(0), 1);
    }

    private static void theFirstAndTheLastDiffer() {
        t.sentence("The i-th shipment (upward)");
        Run x = Run.withRates("R 0 0 9 5\n");
        x.shipments(20, 0, 1, 0);
        for (int n = 19; n >= 0; n--) {
            x.book(n, 0);
            x.invoice(n, 6);
        }
        for (int i = 0; i < 20; i++) {
            t.due("all differ", x.differ(i), i);
        }
        t.due("a twenty-first", x.differ(20), -1);
    }

    private static void belowZero() {
        t.sentence("IllegalArgumentException: i is below 0");
        Run x = booked();
        t.refused("below", Checks.ARGUMENT, x, "differ", -1);
        x.invoice(0, 5);
        t.refused("below", Checks.ARGUMENT, x, "differ", -1);
        t.refused("far below", Checks.ARGUMENT, x, "differ", Integer.MIN_VALUE);
        t.due("0", x.differ(0), 0);
    }
}
