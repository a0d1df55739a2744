import java.util.ArrayList;
import java.util.List;

/**
 * One object of the class with the calls that were made on it, which can be made again on a new object. The document
 * promises 512 calls, so a test that makes more of them on one object is wrong itself.
 */
final class Run implements Face {
    static final int MOST_CALLS = 512;

    private final RateBreaks x = new RateBreaks();
    private final List<Call> calls = new ArrayList<>();

    static Run withRates(String text) {
        Run run = new Run();
        if (run.readText(text) < 0) {
            throw new AssertionError("the test's own rates are wrong: " + text);
        }
        return run;
    }

    void tell(String text) {
        for (int i = 0; i < text.length(); i++) {
            sign(text.charAt(i));
        }
    }

    long readText(String text) {
        tell(text);
        return read();
    }

    void shipments(int many, int zone, int grams, int volume) {
        for (int i = 0; i < many; i++) {
            shipment(zone, grams, volume);
        }
    }

    /** Calls that change nothing, so that two objects have as many calls left. */
    void idle(int many) {
        for (int i = 0; i < many; i++) {
            count(0);
        }
    }

    boolean isFull() {
        return calls.size() >= MOST_CALLS;
    }

    /** A new object after the same calls. */
    Run again() {
        Run twin = new Run();
        onto(twin);
        return twin;
    }

    /** Makes the same calls on another. */
    void onto(Face other) {
        for (Call call : calls) {
            call.outcome(other);
        }
    }

    private void keep(String name, int... n) {
        if (isFull()) {
            throw new AssertionError("the test makes more calls than are promised");
        }
        calls.add(new Call(name, n));
    }

    @Override
    public long sign(int c) {
        keep("sign", c);
        return x.sign(c);
    }

    @Override
    public long read() {
        keep("read");
        return x.read();
    }

    @Override
    public long shipment(int zone, int grams, int volume) {
        keep("shipment", zone, grams, volume);
        return x.shipment(zone, grams, volume);
    }

    @Override
    public long weight(int shipment, int service) {
        keep("weight", shipment, service);
        return x.weight(shipment, service);
    }

    @Override
    public long price(int shipment, int service) {
        keep("price", shipment, service);
        return x.price(shipment, service);
    }

    @Override
    public long cheapest(int shipment) {
        keep("cheapest", shipment);
        return x.cheapest(shipment);
    }

    @Override
    public long parcels(int shipment, int service) {
        keep("parcels", shipment, service);
        return x.parcels(shipment, service);
    }

    @Override
    public long contract(int service, int from, int up, int down) {
        keep("contract", service, from, up, down);
        return x.contract(service, from, up, down);
    }

    @Override
    public long book(int shipment, int service) {
        keep("book", shipment, service);
        return x.book(shipment, service);
    }

    @Override
    public long combine(int shipment, int other) {
        keep("combine", shipment, other);
        return x.combine(shipment, other);
    }

    @Override
    public long invoice(int shipment, int cents) {
        keep("invoice", shipment, cents);
        return x.invoice(shipment, cents);
    }

    @Override
    public long refund(int shipment, int cents) {
        keep("refund", shipment, cents);
        return x.refund(shipment, cents);
    }

    @Override
    public long differ(int i) {
        keep("differ", i);
        return x.differ(i);
    }

    @Override
    public long currency(int day, int up, int down) {
        keep("currency", day, up, down);
        return x.currency(day, up, down);
    }

    @Override
    public long converted(int cents, int day) {
        keep("converted", cents, day);
        return x.converted(cents, day);
    }

    @Override
    public long told(int shipment, int what) {
        keep("told", shipment, what);
        return x.told(shipment, what);
    }

    @Override
    public long count(int what) {
        keep("count", what);
        return x.count(what);
    }
}
