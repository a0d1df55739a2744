import java.util.ArrayList;
import java.util.List;

/**
 * The refusals and their order in "Terms", for every call that takes numbers with every meeting of edges: each number
 * at the ends of its range and just outside, on a new object, on one with shipments of every kind, and on a full one.
 * The answer is PlainModel's; a refused call changes nothing.
 */
public final class EdgesTest {
    private static final Checks t = new Checks();
    private static final int[] SHIPMENTS = {-1, 0, 1, 2, 3, 4, 5, 6, 7, 19, 20};
    private static final int[] SERVICES = {-1, 0, 1, 2, 9, 10};

    public static void main(String[] args) {
        List<Call> calls = calls();
        t.sentence("REFUSALS, the first that holds (a new object)");
        everyCallOn(new Run(), calls);
        t.sentence("REFUSALS, the first that holds (shipments of every kind)");
        everyCallOn(ofEveryKind(), calls);
        t.sentence("REFUSALS, the first that holds (a full object)");
        everyCallOn(full(), calls);
        t.finish();
    }

    /** 0 and 6 may be combined, 1 is gone, 2 is booked, 3 and 4 are invoiced, 5 is the greatest that may be. */
    private static Run ofEveryKind() {
        Run x = Run.withRates("R 0 0 5 10\nR 1 0 5 0\nD 1 0\nR 9 0 5 7\nD 9 1\nR 9 9 100000 1000000\nD 2 0\n");
        x.shipments(5, 0, 1, 0);
        x.shipment(9, 100000, 100000000);
        x.shipment(0, 1, 9);
        x.combine(0, 1);
        x.book(2, 0);
        x.book(3, 0);
        x.book(4, 9);
        x.invoice(3, 10);
        x.invoice(4, 0);
        x.contract(9, 0, 1, 2);
        x.contract(9, 1, 1, 3);
        x.contract(9, 2, 1, 4);
        x.currency(1, 2, 3);
        x.tell("M 0 1\n");
        return x;
    }

    private static Run full() {
        Run x = Run.withRates("R 0 0 100000 10\nR 9 0 5 7\nD 9 1\nD 1 0\n");
        x.shipments(2, 0, 50001, 0);
        x.shipments(2, 0, 1, 60000000);
        x.shipments(16, 0, 1, 0);
        x.combine(7, 6);
        x.book(19, 9);
        x.book(5, 0);
        x.invoice(19, 11);
        for (int n = 0; n < 4; n++) {
            x.contract(0, n, 1, 2);
            x.contract(9, 100 - n, 1, 2);
        }
        for (int n = 0; n < 8; n++) {
            x.currency(10000 - n, 1, 1);
        }
        return x;
    }

    private static void everyCallOn(Run x, List<Call> calls) {
        Run idle = x.again();
        idle.idle(1);
        String unchanged = State.of(idle);
        for (Call call : calls) {
            Run twin = x.again();
            PlainModel model = new PlainModel();
            x.onto(model);
            String got = call.outcome(twin);
            t.same(call.toString(), got, call.outcome(model));
            if (got.startsWith("throws") && !State.of(twin).equals(unchanged)) {
                t.complain(call + " was refused and changed something");
            }
        }
    }

    private static List<Call> calls() {
        int[] cents = {-1, 0, 1, 10, 11, 10000000, 10000001};
        int[] days = {-1, 0, 1, 10000, 10001};
        int[] shares = {-1, 0, 1, 100000, 100001};
        List<Call> all = new ArrayList<>();
        add(all, "sign", new int[] {-1, 0, 10, 255, 256});
        add(all, "shipment", new int[] {-1, 0, 9, 10}, new int[] {-1, 0, 1, 100000, 100001}, new int[] {-1, 0, 100000000, 100000001});
        add(all, "weight", SHIPMENTS, SERVICES);
        add(all, "price", SHIPMENTS, SERVICES);
        add(all, "cheapest", SHIPMENTS);
        add(all, "parcels", SHIPMENTS, SERVICES);
        add(all, "contract", new int[] {-1, 0, 9, 10}, new int[] {-1, 0, 3, 100, 101}, new int[] {-1, 0, 1, 2, 1000, 1001},
            new int[] {-1, 0, 1, 2, 1000, 1001});
        add(all, "book", SHIPMENTS, SERVICES);
        add(all, "combine", SHIPMENTS, SHIPMENTS);
        add(all, "invoice", SHIPMENTS, cents);
        add(all, "refund", SHIPMENTS, cents);
        add(all, "differ", new int[] {-1, 0, 1, 2, 19, 20});
        add(all, "currency", days, shares, shares);
        add(all, "converted", cents, days);
        add(all, "told", SHIPMENTS, new int[] {-1, 0, 1, 2, 3, 4, 5, 6});
        add(all, "count", new int[] {-1, 0, 1, 2, 3, 4, 5, 6});
        return all;
    }

    /** A call for every choice of one number out of each row. */
    private static void add(List<Call> all, String name, int[]... rows) {
        int many = 1;
        for (int[] row : rows) {
            many *= row.length;
        }
        for (int choice = 0; choice < many; choice++) {
            int[] n = new int[rows.length];
            int rest = choice;
            for (int i = 0; i < rows.length; i++) {
                n[i] = rows[i][rest % rows[i].length];
                rest /= rows[i].length;
            }
            all.add(new Call(name, n));
        }
    }
}
