/** Promises 17 and 18: told, count. */
public final class CountTest {
    private static final Checks t = new Checks();
    private static final int[] NO_WHAT = {-1, 6, 7, Integer.MIN_VALUE, Integer.MAX_VALUE};

    public static void main(String[] args) {
        whatIsToldOfAShipment();
        toldAtZero();
        toldOfNoneOrNothing();
        countOfSigns();
        countOfLines();
        countOfShipments();
        countOfBookings();
        countOfWhatIsLeft();
        countOfAnother();
        t.finish();
    }

    private static void whatIsToldOfAShipment() {
        t.sentence("Of a shipment 0 its zone, 1 grams, 2 volume, 3 the service .., 4 the price .., 5 what is left of its invoice");
        Run x = Run.withRates("R 9 8 9 100\n");
        x.shipment(8, 5, 4);
        told(x, 0, 8, 5, 4, -1, -1, -1);
        x.book(0, 9);
        told(x, 0, 8, 5, 4, 9, 100, -1);
        x.invoice(0, 90);
        told(x, 0, 8, 5, 4, 9, 100, 90);
        x.refund(0, 2);
        told(x, 0, 8, 5, 4, 9, 100, 88);
        x.shipments(19, 9, 100000, 100000000);
        told(x, 19, 9, 100000, 100000000, -1, -1, -1);
    }

    private static void toldAtZero() {
        t.sentence("-1 not");
        Run x = Run.withRates("R 0 0 1 0\n");
        x.shipment(0, 1, 0);
        told(x, 0, 0, 1, 0, -1, -1, -1);
        x.book(0, 0);
        told(x, 0, 0, 1, 0, 0, 0, -1);
        x.invoice(0, 0);
        told(x, 0, 0, 1, 0, 0, 0, 0);
    }

    private static void told(Run x, int shipment, int... due) {
        for (int what = 0; what < due.length; what++) {
            t.due("of " + shipment + ", " + what, x.told(shipment, what), due[what]);
        }
    }

    private static void toldOfNoneOrNothing() {
        t.sentence("NoSuchElementException, IllegalArgumentException");
        Run x = new Run();
        x.shipments(3, 0, 1, 0);
        x.combine(2, 1);
        for (int what : NO_WHAT) {
            t.refused("nothing of the number", Checks.ARGUMENT, x, "told", 0, what);
        }
        for (int shipment : new int[] {-1, 1, 3, 19, 20, Integer.MIN_VALUE, Integer.MAX_VALUE}) {
            for (int what = -1; what <= 6; what++) {
                t.refused("no shipment", Checks.NONE, x, "told", shipment, what);
            }
        }
    }

    private static void countOfSigns() {
        t.sentence("0 signs of the text");
        Run x = new Run();
        t.due("none", x.count(0), 0);
        x.sign(0);
        t.due("one", x.count(0), 1);
        x.sign(10);
        t.due("two", x.count(0), 2);
        x.read();
        t.due("read", x.count(0), 0);
        for (int n = 0; n < 500; n++) {
            x.sign(255);
        }
        t.due("many", x.count(0), 500);
    }

    private static void countOfLines() {
        t.sentence("1 lines of the rates");
        Run x = new Run();
        t.due("none", x.count(1), 0);
        x.tell("R 0 0 1 0\nD 1 0\nM 2 0\nF 3 0 1\n");
        t.due("not read yet", x.count(1), 0);
        x.read();
        t.due("one of each kind", x.count(1), 4);
        x.readText("D 0 1\nQ\n");
        t.due("behind a wrong text", x.count(1), 4);
        x.readText("D 0 1\n");
        t.due("behind a right one", x.count(1), 1);
        x.read();
        t.due("behind an empty one", x.count(1), 0);
    }

    private static void countOfShipments() {
        t.sentence("2 shipments (combined ones without those that are gone)");
        Run x = new Run();
        for (int n = 0; n < 20; n++) {
            t.due("shipments", x.count(2), n);
            x.shipment(0, 1, 0);
        }
        t.due("all that may be", x.count(2), 20);
        for (int n = 1; n < 20; n++) {
            x.combine(0, n);
            t.due("combined", x.count(2), 20 - n);
        }
        t.due("all in one", x.told(0, 1), 20);
    }

    private static void countOfBookings() {
        t.sentence("3 booked ones, 4 their prices together");
        Run x = Run.withRates("R 0 0 9 1000000\nF 0 1 1\nR 1 0 9 0\n");
        x.shipments(20, 0, 1, 0);
        t.due("none", x.count(3), 0);
        t.due("their prices", x.count(4), 0);
        x.book(0, 1);
        t.due("one for nothing", x.count(3), 1);
        t.due("their prices", x.count(4), 0);
        for (int n = 1; n < 20; n++) {
            x.book(n, 0);
            t.due("booked", x.count(3), n + 1);
            t.due("their prices", x.count(4), n * 2000000);
        }
        x.read();
        t.due("the rates are nothing to it", x.count(4), 38000000);
        x.invoice(5, 3);
        t.due("nor are invoices", x.count(4), 38000000);
    }

    private static void countOfWhatIsLeft() {
        t.sentence("5 what is left of all invoices together");
        Run x = Run.withRates("R 0 0 9 7\n");
        x.shipments(20, 0, 1, 0);
        for (int n = 0; n < 20; n++) {
            x.book(n, 0);
            t.due("not invoiced", x.count(5), 0);
        }
        x.invoice(0, 0);
        t.due("an invoice of 0", x.count(5), 0);
        for (int n = 1; n < 20; n++) {
            x.invoice(n, 10000000);
            t.due("invoices", x.count(5), n * 10000000);
        }
        x.refund(19, 1);
        t.due("a refund", x.count(5), 189999999);
        x.refund(1, 10000000);
        t.due("all of one", x.count(5), 179999999);
        t.due("their prices", x.count(4), 140);
    }

    private static void countOfAnother() {
        t.sentence("-1 for another what");
        Run x = Run.withRates("R 0 0 9 7\n");
        x.shipment(0, 1, 0);
        x.book(0, 0);
        for (int what : NO_WHAT) {
            t.due("count " + what, x.count(what), -1);
        }
    }
}
