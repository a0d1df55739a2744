import java.util.Arrays;

/** One call by its name and its numbers; numbers that it does not take may stand behind them. */
record Call(String name, int... n) {
    long on(Face x) {
        switch (name) {
            case "sign": return x.sign(n[0]);
            case "read": return x.read();
            case "shipment": return x.shipment(n[0], n[1], n[2]);
            case "weight": return x.weight(n[0], n[1]);
            case "price": return x.price(n[0], n[1]);
            case "cheapest": return x.cheapest(n[0]);
            case "parcels": return x.parcels(n[0], n[1]);
            case "contract": return x.contract(n[0], n[1], n[2], n[3]);
            case "book": return x.book(n[0], n[1]);
            case "combine": return x.combine(n[0], n[1]);
            case "invoice": return x.invoice(n[0], n[1]);
            case "refund": return x.refund(n[0], n[1]);
            case "differ": return x.differ(n[0]);
            case "currency": return x.currency(n[0], n[1], n[2]);
            case "converted": return x.converted(n[0], n[1]);
            case "told": return x.told(n[0], n[1]);
            case "count": return x.count(n[0]);
            default: throw new AssertionError("the test's own call is wrong: " + name);
        }
    }

    /** The answer, or the very class that the call throws. */
    String outcome(Face x) {
        try {
            return Long.toString(on(x));
        } catch (RuntimeException e) {
            boolean machine = e instanceof ArithmeticException && "/ by zero".equals(e.getMessage());
            return "throws." + e.getClass().getSimpleName() + (machine ? " of the machine" : "");
        }
    }

    @Override
    public String toString() {
        return name + Arrays.toString(n).replace('[', '(').replace(']', ')');
    }
}
