import java.util.ArrayList;
import java.util.List;

/** What an object's answers show of its state, by a long row of questions to new objects after the same calls. */
final class State {
    private static final List<Call> QUESTIONS = questions();
    private static final List<List<Call>> DEEDS = deeds();

    static String of(Run run) {
        StringBuilder all = new StringBuilder();
        Run twin = run.again();
        for (Call question : QUESTIONS) {
            if (twin.isFull()) {
                twin = run.again();
            }
            note(all, question, twin);
        }
        for (List<Call> row : DEEDS) {
            twin = run.again();
            for (Call deed : row) {
                if (!twin.isFull()) {
                    note(all, deed, twin);
                }
            }
        }
        return all.toString();
    }

    private static void note(StringBuilder all, Call call, Run twin) {
        all.append(call.outcome(twin)).append('\n');
    }

    private static List<Call> questions() {
        List<Call> all = new ArrayList<>();
        for (int what = 0; what <= 5; what++) {
            all.add(new Call("count", what));
        }
        for (int shipment = 0; shipment < 20; shipment++) {
            for (int what = 0; what <= 5; what++) {
                all.add(new Call("told", shipment, what));
            }
            for (int service = 0; service <= 9; service++) {
                all.add(new Call("weight", shipment, service));
                all.add(new Call("price", shipment, service));
                all.add(new Call("parcels", shipment, service));
            }
            all.add(new Call("cheapest", shipment));
            all.add(new Call("differ", shipment));
        }
        for (int day = 0; day <= 100; day++) {
            all.add(new Call("converted", 9999991, day == 100 ? 10000 : day));
        }
        return all;
    }

    /** What only a change can show: the text, the room that is left, contracts that are not reached yet. */
    private static List<List<Call>> deeds() {
        List<List<Call>> all = new ArrayList<>();
        List<Call> reading = new ArrayList<>();
        reading.add(new Call("read"));
        reading.addAll(questions());
        all.add(reading);
        all.add(List.of(new Call("shipment", 0, 1, 0)));
        all.add(List.of(new Call("currency", 7777, 1, 1)));
        for (int service = 0; service <= 9; service++) {
            all.add(List.of(new Call("contract", service, 77, 1, 1)));
            List<Call> bookings = new ArrayList<>();
            for (int shipment = 0; shipment < 20; shipment++) {
                bookings.add(new Call("book", shipment, service));
            }
            all.add(bookings);
        }
        return all;
    }
}
