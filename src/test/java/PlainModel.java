import java.util.ArrayList;
import java.util.HashMap;
import java.util.List;
import java.util.Map;
import java.util.NoSuchElementException;
import java.util.TreeMap;
import java.util.regex.Matcher;
import java.util.regex.Pattern;

/** The document written a second time, with the library's maps and patterns, to compare answers with. */
final class PlainModel implements Face {
    private static final String NUMBER = " (0|[1-9][0-9]{0,8})";
    private static final Pattern LINE = Pattern.compile(
        "R" + NUMBER + NUMBER + NUMBER + NUMBER + "|[DM]" + NUMBER + NUMBER + "|F" + NUMBER + NUMBER + NUMBER);

    private static final class Rates {
        final Map<String, TreeMap<Integer, Integer>> steps = new HashMap<>();
        final Map<Integer, Integer> divisors = new HashMap<>();
        final Map<Integer, Integer> minima = new HashMap<>();
        final Map<Integer, int[]> fuel = new HashMap<>();
        int lines = 0;
    }

    private static final class Item {
        int zone;
        long grams;
        long volume;
        Integer service;
        Integer price;
        Integer left;
    }

    private final StringBuilder text = new StringBuilder();
    private Rates rates = new Rates();
    private final List<Item> items = new ArrayList<>();
    private final Map<Integer, TreeMap<Integer, int[]>> contracts = new HashMap<>();
    private final TreeMap<Integer, int[]> days = new TreeMap<>();

    @Override
    public long sign(int c) {
        argument(c >= 0 && c <= 255);
        room(text.length() < 600);
        text.append((char) c);
        return text.length();
    }

    @Override
    public long read() {
        String all = text.toString();
        text.setLength(0);
        Rates fresh = new Rates();
        int start = 0;
        while (start < all.length()) {
            int end = all.indexOf('\n', start);
            if (end < 0 || fresh.lines == 60 || !take(fresh, all.substring(start, end))) {
                return -1 - start;
            }
            fresh.lines++;
            start = end + 1;
        }
        rates = fresh;
        return fresh.lines;
    }

    private static boolean take(Rates r, String line) {
        Matcher m = LINE.matcher(line);
        if (!m.matches()) {
            return false;
        }
        String[] w = line.split(" ");
        int[] n = new int[w.length];
        for (int i = 1; i < w.length; i++) {
            n[i] = Integer.parseInt(w[i]);
        }
        if (n[1] > 9) {
            return false;
        }
        switch (w[0]) {
            case "R":
                TreeMap<Integer, Integer> lane = r.steps.computeIfAbsent(n[1] + "/" + n[2], k -> new TreeMap<>());
                boolean rises = lane.isEmpty() || lane.lastKey() < n[3];
                boolean right = n[2] <= 9 && n[3] >= 1 && n[3] <= 100000 && n[4] <= 1000000 && rises;
                lane.put(n[3], n[4]);
                return right;
            case "D":
                return n[2] <= 100000 && r.divisors.put(n[1], n[2]) == null;
            case "M":
                return n[2] <= 1000000 && r.minima.put(n[1], n[2]) == null;
            default:
                return n[3] >= 1 && n[3] <= 1000 && n[2] <= n[3] && r.fuel.put(n[1], n) == null;
        }
    }

    @Override
    public long shipment(int zone, int grams, int volume) {
        argument(zone >= 0 && zone <= 9 && grams >= 1 && grams <= 100000 && volume >= 0 && volume <= 100000000);
        room(items.size() < 20);
        Item item = new Item();
        item.zone = zone;
        item.grams = grams;
        item.volume = volume;
        items.add(item);
        return items.size() - 1;
    }

    @Override
    public long weight(int shipment, int service) {
        Item item = item(shipment);
        argument(service >= 0 && service <= 9);
        return weightOf(item, service);
    }

    @Override
    public long price(int shipment, int service) {
        Item item = item(shipment);
        argument(service >= 0 && service <= 9);
        return priceOf(item, service);
    }

    @Override
    public long cheapest(int shipment) {
        Item item = item(shipment);
        int best = -1;
        for (int service = 9; service >= 0; service--) {
            boolean passed = rates.divisors.containsKey(service) && rates.divisors.get(service) == 0;
            if (!passed && priceOf(item, service) >= 0
                && (best < 0 || priceOf(item, service) <= priceOf(item, best))) {
                best = service;
            }
        }
        return best;
    }

    /** A least parting has all but one of its parcels at a step's full weight or at the lowest that still is its own. */
    @Override
    public long parcels(int shipment, int service) {
        Item item = item(shipment);
        argument(service >= 0 && service <= 9);
        TreeMap<Integer, Integer> lane = rates.steps.getOrDefault(service + "/" + item.zone, new TreeMap<>());
        List<Long> sizes = new ArrayList<>();
        sizes.add(0L);
        long below = 0;
        for (int weight : lane.keySet()) {
            sizes.add((long) weight);
            sizes.add(below + 1);
            below = weight;
        }
        long best = -1;
        for (long a : sizes) {
            for (long b : sizes) {
                long c = item.grams - a - b;
                long cost = c < 0 ? -1 : together(lane, a, b, c);
                if (cost >= 0 && (best < 0 || cost < best)) {
                    best = cost;
                }
            }
        }
        return best;
    }

    private static long together(TreeMap<Integer, Integer> lane, long... grams) {
        long sum = 0;
        for (long g : grams) {
            Map.Entry<Integer, Integer> step = lane.ceilingEntry((int) g);
            if (g > 0 && step == null) {
                return -1;
            }
            sum += g > 0 ? step.getValue() : 0;
        }
        return sum;
    }

    @Override
    public long contract(int service, int from, int up, int down) {
        argument(service >= 0 && service <= 9 && from >= 0 && from <= 100);
        argument(down >= 1 && down <= 1000 && up >= 0 && up <= down);
        TreeMap<Integer, int[]> own = contracts.computeIfAbsent(service, k -> new TreeMap<>());
        room(own.containsKey(from) || own.size() < 4);
        own.put(from, new int[] {up, down});
        return own.size();
    }

    @Override
    public long book(int shipment, int service) {
        Item item = item(shipment);
        argument(service >= 0 && service <= 9);
        state(item.service == null);
        long price = priceOf(item, service);
        state(price >= 0);
        item.service = service;
        item.price = (int) price;
        return price;
    }

    @Override
    public long combine(int shipment, int other) {
        Item first = item(shipment);
        Item second = item(other);
        state(first != second && first.service == null && second.service == null && first.zone == second.zone);
        state(first.grams + second.grams <= 100000 && first.volume + second.volume <= 100000000);
        first.grams += second.grams;
        first.volume += second.volume;
        items.set(other, null);
        return first.grams;
    }

    @Override
    public long invoice(int shipment, int cents) {
        Item item = item(shipment);
        argument(cents >= 0 && cents <= 10000000);
        state(item.service != null && item.left == null);
        item.left = cents;
        return cents - item.price;
    }

    @Override
    public long refund(int shipment, int cents) {
        Item item = item(shipment);
        argument(cents >= 1 && cents <= 10000000);
        state(item.left != null && item.left >= cents);
        item.left -= cents;
        return item.left;
    }

    @Override
    public long differ(int i) {
        argument(i >= 0);
        List<Integer> all = new ArrayList<>();
        for (Item item : items) {
            if (item != null && item.left != null && !item.left.equals(item.price)) {
                all.add(items.indexOf(item));
            }
        }
        return i < all.size() ? all.get(i) : -1;
    }

    @Override
    public long currency(int day, int up, int down) {
        argument(day >= 0 && day <= 10000 && up >= 1 && up <= 100000 && down >= 1 && down <= 100000);
        room(days.containsKey(day) || days.size() < 8);
        days.put(day, new int[] {up, down});
        return days.size();
    }

    @Override
    public long converted(int cents, int day) {
        argument(cents >= 0 && cents <= 10000000 && day >= 0 && day <= 10000);
        Map.Entry<Integer, int[]> by = days.floorEntry(day);
        return by == null ? -1 : (long) cents * by.getValue()[0] / by.getValue()[1];
    }

    @Override
    public long told(int shipment, int what) {
        Item item = item(shipment);
        argument(what >= 0 && what <= 5);
        Object[] all = {item.zone, item.grams, item.volume, item.service, item.price, item.left};
        return all[what] == null ? -1 : ((Number) all[what]).longValue();
    }

    @Override
    public long count(int what) {
        long[] sums = {text.length(), rates.lines, 0, 0, 0, 0};
        for (Item item : items) {
            if (item != null) {
                sums[2]++;
                sums[3] += item.service == null ? 0 : 1;
                sums[4] += item.price == null ? 0 : item.price;
                sums[5] += item.left == null ? 0 : item.left;
            }
        }
        return what >= 0 && what <= 5 ? sums[what] : -1;
    }

    private Item item(int number) {
        if (number < 0 || number >= items.size() || items.get(number) == null) {
            throw new NoSuchElementException();
        }
        return items.get(number);
    }

    private long weightOf(Item item, int service) {
        if (!rates.divisors.containsKey(service)) {
            return item.grams;
        }
        if (rates.divisors.get(service) == 0) {
            throw new ArithmeticException();
        }
        return Math.max(item.grams, up(item.volume, 1, rates.divisors.get(service)));
    }

    private long priceOf(Item item, int service) {
        long toPay = weightOf(item, service);
        TreeMap<Integer, Integer> lane = rates.steps.get(service + "/" + item.zone);
        Map.Entry<Integer, Integer> step = lane == null ? null : lane.ceilingEntry((int) toPay);
        if (step == null) {
            return -1;
        }
        long price = step.getValue();
        int[] fuel = rates.fuel.get(service);
        price += fuel == null ? 0 : up(price, fuel[2], fuel[3]);
        price = Math.max(price, rates.minima.getOrDefault(service, 0));
        int booked = 0;
        for (Item other : items) {
            booked += other != null && other.service != null && other.service == service ? 1 : 0;
        }
        Map.Entry<Integer, int[]> by = contracts.getOrDefault(service, new TreeMap<>()).floorEntry(booked);
        return by == null ? price : up(price, by.getValue()[0], by.getValue()[1]);
    }

    private static long up(long amount, long times, long by) {
        return (amount * times + by - 1) / by;
    }

    private static void argument(boolean right) {
        if (!right) {
            throw new IllegalArgumentException();
        }
    }

    private static void state(boolean right) {
        if (!right) {
            throw new IllegalStateException();
        }
    }

    private static void room(boolean right) {
        if (!right) {
            throw new UnsupportedOperationException();
        }
    }
}
