import java.util.NoSuchElementException;

/**
 * Rates of carriers, read from a text that is told sign by sign, and what is done by them:
 * shipments, their prices, bookings, invoices and refunds, contracts, and a second currency.
 */
public final class RateBreaks {
    private static final int NONE = -1;
    private static final int SERVICES = 10;
    private static final int ZONES = 10;
    private static final int MOST_SIGN = 255;
    private static final int MOST_SIGNS = 600;
    private static final int MOST_LINES = 60;
    private static final int MOST_NUMBERS = 4;
    private static final int MOST_DIGITS = 9;
    private static final int MOST_GRAMS = 100000;
    private static final int MOST_VOLUME = 100000000;
    private static final int MOST_RATE_CENTS = 1000000;
    private static final int MOST_DIVISOR = 100000;
    private static final int MOST_SHARE = 1000;
    private static final int MOST_SHIPMENTS = 20;
    private static final int MOST_PARCELS = 3;
    private static final int MOST_CONTRACTS = 4;
    private static final int MOST_FROM = 100;
    private static final int MOST_CENTS = 10000000;
    private static final int MOST_DAY = 10000;
    private static final int MOST_DAYS = 8;
    private static final int MOST_EXCHANGE = 100000;

    private final Text text;
    private Rates rates;
    private Rates draft;
    private final Shipment[] shipments;
    private int made;
    private final Ratios[] contracts;
    private final int[] bookedBy;
    private final Ratios currencies;

    public RateBreaks() {
        text = new Text();
        rates = new Rates();
        draft = new Rates();
        shipments = new Shipment[MOST_SHIPMENTS];
        made = 0;
        contracts = new Ratios[SERVICES];
        for (int service = 0; service < SERVICES; service++) {
            contracts[service] = new Ratios(MOST_CONTRACTS);
        }
        bookedBy = new int[SERVICES];
        currencies = new Ratios(MOST_DAYS);
    }

    public int sign(int c) throws IllegalArgumentException, UnsupportedOperationException {
        needWithin(c, 0, MOST_SIGN);
        if (text.length >= MOST_SIGNS) {
            throw new UnsupportedOperationException("the text is full");
        }
        text.append(c);
        return text.length;
    }

    public int read() {
        int wrong = readInto(draft);
        text.clear();
        if (wrong != NONE) {
            return -1 - wrong;
        }
        // The two change places, so that no reading needs new rows.
        Rates earlier = rates;
        rates = draft;
        draft = earlier;
        return rates.lines;
    }

    public int shipment(int zone, int grams, int volume) throws IllegalArgumentException, UnsupportedOperationException {
        needWithin(zone, 0, ZONES - 1);
        needWithin(grams, 1, MOST_GRAMS);
        needWithin(volume, 0, MOST_VOLUME);
        if (made >= MOST_SHIPMENTS) {
            throw new UnsupportedOperationException("no room for a shipment");
        }
        shipments[made] = new Shipment(zone, grams, volume);
        made++;
        return made - 1;
    }

    public int weight(int shipment, int service) throws NoSuchElementException, IllegalArgumentException, ArithmeticException {
        Shipment asked = present(shipment);
        needService(service);
        return rates.weightToPay(asked, service);
    }

    public int price(int shipment, int service) throws NoSuchElementException, IllegalArgumentException, ArithmeticException {
        Shipment asked = present(shipment);
        needService(service);
        return priceNow(asked, service);
    }

    public int cheapest(int shipment) throws NoSuchElementException {
        Shipment asked = present(shipment);
        int best = NONE;
        int least = NONE;
        for (int service = 0; service < SERVICES; service++) {
            int cents = rates.divisors[service] == 0 ? NONE : priceNow(asked, service);
            if (cents != NONE && (least == NONE || cents < least)) {
                best = service;
                least = cents;
            }
        }
        return best;
    }

    public int parcels(int shipment, int service) throws NoSuchElementException, IllegalArgumentException {
        Shipment asked = present(shipment);
        needService(service);
        int lane = laneOf(service, asked.zone);
        return rates.leastCents(lane, MOST_PARCELS, 0, asked.grams, asked.grams);
    }

    public int contract(int service, int from, int up, int down) throws IllegalArgumentException, UnsupportedOperationException {
        needService(service);
        needWithin(from, 0, MOST_FROM);
        needWithin(down, 1, MOST_SHARE);
        needWithin(up, 0, down);
        Ratios own = contracts[service];
        needRoom(own, from);
        own.put(from, up, down);
        return own.size;
    }

    public int book(int shipment, int service) throws NoSuchElementException, IllegalArgumentException, IllegalStateException, ArithmeticException {
        Shipment asked = present(shipment);
        needService(service);
        if (asked.isBooked()) {
            throw new IllegalStateException("the shipment is booked");
        }
        int cents = priceNow(asked, service);
        if (cents == NONE) {
            throw new IllegalStateException("the service has no step for the shipment");
        }
        asked.service = service;
        asked.cents = cents;
        bookedBy[service]++;
        return cents;
    }

    public int combine(int shipment, int other) throws NoSuchElementException, IllegalStateException {
        Shipment first = present(shipment);
        Shipment second = present(other);
        if (shipment == other) {
            throw new IllegalStateException("a shipment can't be combined with itself");
        }
        if (first.isBooked() || second.isBooked()) {
            throw new IllegalStateException("a shipment of the two is booked");
        }
        if (first.zone != second.zone) {
            throw new IllegalStateException("the shipments are of different zones");
        }
        int grams = first.grams + second.grams;
        int volume = first.volume + second.volume;
        if (grams > MOST_GRAMS || volume > MOST_VOLUME) {
            throw new IllegalStateException("the shipments are too much for one");
        }
        first.grams = grams;
        first.volume = volume;
        shipments[other] = null;
        return grams;
    }

    public int invoice(int shipment, int cents) throws NoSuchElementException, IllegalArgumentException, IllegalStateException {
        Shipment asked = present(shipment);
        needWithin(cents, 0, MOST_CENTS);
        if (!asked.isBooked() || asked.isInvoiced()) {
            throw new IllegalStateException("the shipment is not booked, or was invoiced");
        }
        asked.left = cents;
        return cents - asked.cents;
    }

    public int refund(int shipment, int cents) throws NoSuchElementException, IllegalArgumentException, IllegalStateException {
        Shipment asked = present(shipment);
        needWithin(cents, 1, MOST_CENTS);
        if (!asked.isInvoiced() || cents > asked.left) {
            throw new IllegalStateException("the shipment is not invoiced, or less is left");
        }
        asked.left -= cents;
        return asked.left;
    }

    public int differ(int i) throws IllegalArgumentException {
        if (i < 0) {
            throw new IllegalArgumentException("the place is below 0");
        }
        int before = 0;
        for (int number = 0; number < MOST_SHIPMENTS; number++) {
            Shipment asked = shipments[number];
            if (asked != null && asked.isInvoiced() && asked.left != asked.cents) {
                if (before == i) {
                    return number;
                }
                before++;
            }
        }
        return NONE;
    }

    public int currency(int day, int up, int down) throws IllegalArgumentException, UnsupportedOperationException {
        needWithin(day, 0, MOST_DAY);
        needWithin(up, 1, MOST_EXCHANGE);
        needWithin(down, 1, MOST_EXCHANGE);
        needRoom(currencies, day);
        currencies.put(day, up, down);
        return currencies.size;
    }

    public long converted(int cents, int day) throws IllegalArgumentException {
        needWithin(cents, 0, MOST_CENTS);
        needWithin(day, 0, MOST_DAY);
        int place = currencies.latest(day);
        if (place == NONE) {
            return NONE;
        }
        return dividedDown((long) cents * currencies.ups[place], currencies.downs[place]);
    }

    public int told(int shipment, int what) throws NoSuchElementException, IllegalArgumentException {
        Shipment asked = present(shipment);
        switch (what) {
            case 0:
                return asked.zone;
            case 1:
                return asked.grams;
            case 2:
                return asked.volume;
            case 3:
                return asked.service;
            case 4:
                return asked.cents;
            case 5:
                return asked.left;
            default:
                throw new IllegalArgumentException("nothing of that number is told");
        }
    }

    public int count(int what) {
        if (what == 0) {
            return text.length;
        }
        if (what == 1) {
            return rates.lines;
        }
        if (what < 2 || what > 5) {
            return NONE;
        }
        int sum = 0;
        for (int number = 0; number < MOST_SHIPMENTS; number++) {
            Shipment one = shipments[number];
            if (one != null) {
                sum += addend(one, what);
            }
        }
        return sum;
    }

    /** What a shipment adds to a count of the kinds 2 to 5. */
    private static int addend(Shipment one, int what) {
        switch (what) {
            case 2:
                return 1;
            case 3:
                return one.isBooked() ? 1 : 0;
            case 4:
                return one.isBooked() ? one.cents : 0;
            case 5:
                return one.isInvoiced() ? one.left : 0;
            default:
                return 0;
        }
    }

    private static void needWithin(int value, int least, int most) {
        if (value < least || value > most) {
            throw new IllegalArgumentException("a number is outside its range");
        }
    }

    private static void needService(int service) {
        if (service < 0 || service >= SERVICES) {
            throw new IllegalArgumentException("there is no such service");
        }
    }

    private static void needRoom(Ratios ratios, int from) {
        if (!ratios.hasRoomFor(from)) {
            throw new UnsupportedOperationException("no room for another number");
        }
    }

    private Shipment present(int number) {
        Shipment found = number >= 0 && number < MOST_SHIPMENTS ? shipments[number] : null;
        if (found == null) {
            throw new NoSuchElementException("there is no such shipment");
        }
        return found;
    }

    /** Reads the text into empty rates; the place of the first line that is not as said, or NONE. */
    private int readInto(Rates target) {
        target.clear();
        int place = 0;
        for (int line = 0; line < MOST_LINES && place < text.length; line++) {
            int behind = text.behindLine(place);
            if (behind == NONE || !target.take(text.at(place), text.numbers)) {
                return place;
            }
            place = behind;
        }
        // What is left behind the last line that may be is a line too many.
        return place < text.length ? place : NONE;
    }

    /** The price of a shipment by a service that there is, NONE without a step for it. */
    private int priceNow(Shipment asked, int service) {
        int step = rates.stepFor(laneOf(service, asked.zone), rates.weightToPay(asked, service));
        if (step == NONE) {
            return NONE;
        }
        long cents = rates.charged(step, service);
        Ratios own = contracts[service];
        int place = own.latest(bookedBy[service]);
        if (place != NONE) {
            cents = dividedUp(cents * own.ups[place], own.downs[place]);
        }
        return (int) cents;
    }

    private static int laneOf(int service, int zone) {
        return service * ZONES + zone;
    }

    private static long dividedDown(long amount, long divisor) {
        if (divisor == 0) {
            throw new ArithmeticException("the divisor is 0");
        }
        return amount / divisor;
    }

    /** For an amount of 0 or more. */
    private static long dividedUp(long amount, long divisor) {
        return dividedDown(amount + divisor - 1, divisor);
    }

    /** The signs that were told and have not been read. */
    private static final class Text {
        final int[] signs = new int[MOST_SIGNS];
        final int[] numbers = new int[MOST_NUMBERS];
        int length = 0;
        int place = 0;

        void clear() {
            length = 0;
        }

        void append(int c) {
            if (length < MOST_SIGNS) {
                signs[length] = c;
                length++;
            }
        }

        int at(int where) {
            return where >= 0 && where < length ? signs[where] : NONE;
        }

        /** The place behind the line that begins at start, its numbers in the row; NONE if it has not a line's form. */
        int behindLine(int start) {
            int wanted = numbersBehind(at(start));
            if (wanted == 0) {
                return NONE;
            }
            place = start + 1;
            for (int i = 0; i < wanted; i++) {
                numbers[i] = takeNumber();
                if (numbers[i] == NONE) {
                    return NONE;
                }
            }
            return at(place) == '\n' ? place + 1 : NONE;
        }

        private static int numbersBehind(int letter) {
            switch (letter) {
                case 'R':
                    return 4;
                case 'F':
                    return 3;
                case 'D':
                case 'M':
                    return 2;
                default:
                    return 0;
            }
        }

        /** Goes over a blank and a number; that number, or NONE. A tenth digit is left to stand, where no digit may. */
        private int takeNumber() {
            if (at(place) != ' ') {
                return NONE;
            }
            int first = place + 1;
            int value = 0;
            int digits = 0;
            while (digits < MOST_DIGITS && isDigit(at(first + digits))) {
                value = value * 10 + (at(first + digits) - '0');
                digits++;
            }
            place = first + digits;
            boolean zeroInFront = digits > 1 && at(first) == '0';
            return digits == 0 || zeroInFront ? NONE : value;
        }

        private static boolean isDigit(int c) {
            return c >= '0' && c <= '9';
        }
    }

    /** The lines of one text: steps in their order (a lane is a service and a zone), and what each service has once. */
    private static final class Rates {
        final int[] lanes = new int[MOST_LINES];
        final int[] above = new int[MOST_LINES];
        final int[] upTo = new int[MOST_LINES];
        final int[] cents = new int[MOST_LINES];
        final int[] divisors = new int[SERVICES];
        final int[] minima = new int[SERVICES];
        final int[] fuelUps = new int[SERVICES];
        final int[] fuelDowns = new int[SERVICES];
        int lines;
        int steps;

        Rates() {
            clear();
        }

        void clear() {
            lines = 0;
            steps = 0;
            for (int service = 0; service < SERVICES; service++) {
                divisors[service] = NONE;
                minima[service] = NONE;
                fuelUps[service] = NONE;
                fuelDowns[service] = NONE;
            }
        }

        /** Takes a line of the right form; false if its numbers are not as said. */
        boolean take(int letter, int[] numbers) {
            if (numbers.length < MOST_NUMBERS || !takeKind(letter, numbers)) {
                return false;
            }
            lines++;
            return true;
        }

        private boolean takeKind(int letter, int[] numbers) {
            int service = numbers[0];
            switch (letter) {
                case 'R':
                    return takeStep(service, numbers[1], numbers[2], numbers[3]);
                case 'D':
                    return takeOnce(divisors, service, numbers[1], MOST_DIVISOR);
                case 'M':
                    return takeOnce(minima, service, numbers[1], MOST_RATE_CENTS);
                case 'F':
                    return numbers[2] >= 1
                        && takeOnce(fuelDowns, service, numbers[2], MOST_SHARE)
                        && takeOnce(fuelUps, service, numbers[1], numbers[2]);
                default:
                    return false;
            }
        }

        private static boolean takeOnce(int[] row, int service, int value, int most) {
            if (service < 0 || service >= row.length || row[service] != NONE || value > most) {
                return false;
            }
            row[service] = value;
            return true;
        }

        private boolean takeStep(int service, int zone, int grams, int price) {
            if (service >= SERVICES || zone >= ZONES || grams > MOST_GRAMS || price > MOST_RATE_CENTS) {
                return false;
            }
            int lane = laneOf(service, zone);
            int below = heaviest(lane);
            if (grams <= below || steps >= MOST_LINES) {
                return false;
            }
            lanes[steps] = lane;
            above[steps] = below;
            upTo[steps] = grams;
            cents[steps] = price;
            steps++;
            return true;
        }

        /** The weight of a lane's last step; 0 without one, which refuses a weight of 0 too. */
        private int heaviest(int lane) {
            int grams = 0;
            for (int i = 0; i < steps; i++) {
                if (lanes[i] == lane) {
                    grams = upTo[i];
                }
            }
            return grams;
        }

        int weightToPay(Shipment asked, int service) {
            int divisor = divisors[service];
            if (divisor == NONE) {
                return asked.grams;
            }
            int byVolume = (int) dividedUp(asked.volume, divisor);
            return Math.max(asked.grams, byVolume);
        }

        int stepFor(int lane, int grams) {
            for (int i = 0; i < steps; i++) {
                if (lanes[i] == lane && upTo[i] >= grams) {
                    return i;
                }
            }
            return NONE;
        }

        /** A step's cents with the service's fuel share, its minimum at least. */
        long charged(int step, int service) {
            long amount = cents[step];
            if (fuelDowns[service] != NONE) {
                amount += dividedUp(amount * fuelUps[service], fuelDowns[service]);
            }
            return Math.max(amount, minima[service]);
        }

        /**
         * The least cents of so many parcels or fewer, none by a step before first, that have least to most grams
         * together; NONE if that can't be. A parcel of a step may have any grams above the step before up to its own,
         * so what the other parcels must have is a range again, and no single gram needs to be tried.
         */
        int leastCents(int lane, int parcels, int first, int least, int most) {
            if (least <= 0 && most >= 0) {
                return 0;
            }
            if (parcels <= 0 || most < 0) {
                return NONE;
            }
            int best = NONE;
            for (int i = first; i < steps; i++) {
                if (lanes[i] == lane) {
                    int rest = leastCents(lane, parcels - 1, i, least - upTo[i], most - above[i] - 1);
                    if (rest != NONE && (best == NONE || rest + cents[i] < best)) {
                        best = rest + cents[i];
                    }
                }
            }
            return best;
        }
    }

    private static final class Shipment {
        final int zone;
        int grams;
        int volume;
        int service = NONE;
        int cents = NONE;
        int left = NONE;

        Shipment(int zone, int grams, int volume) {
            this.zone = zone;
            this.grams = grams;
            this.volume = volume;
        }

        boolean isBooked() {
            return service != NONE;
        }

        boolean isInvoiced() {
            return left != NONE;
        }
    }

    /** Up by down from a number on, for a few numbers: the contracts of a service, or the currency by days. */
    private static final class Ratios {
        final int[] froms;
        final int[] ups;
        final int[] downs;
        int size = 0;

        Ratios(int most) {
            int room = Math.max(most, 0);
            froms = new int[room];
            ups = new int[room];
            downs = new int[room];
        }

        boolean hasRoomFor(int from) {
            return placeFor(from) < froms.length;
        }

        /** In the place of the same number, if that was told. */
        void put(int from, int up, int down) {
            int place = placeFor(from);
            if (place >= froms.length) {
                return;
            }
            froms[place] = from;
            ups[place] = up;
            downs[place] = down;
            size = Math.max(size, place + 1);
        }

        /** The place of the number, or the first free one. */
        private int placeFor(int from) {
            int place = 0;
            while (place < size && froms[place] != from) {
                place++;
            }
            return place;
        }

        /** The place of the greatest number that is not above this one, or NONE. */
        int latest(int number) {
            int best = NONE;
            for (int i = 0; i < size; i++) {
                if (froms[i] <= number && (best == NONE || froms[i] > froms[best])) {
                    best = i;
                }
            }
            return best;
        }
    }
}
