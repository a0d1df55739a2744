/** Promises 15 and 16: currency, converted. */
public final class CurrencyTest {
    private static final Checks t = new Checks();

    public static void main(String[] args) {
        ranges();
        toldAnewInstead();
        eightDays();
        theLatestDayNotBehind();
        restsDropped();
        noneYet();
        centsAndDaysOutside();
        t.finish();
    }

    private static void ranges() {
        t.sentence("From a day on (0 .. 10000) a cent is up (1 .. 100000) by down (1 .. 100000) of another currency's");
        Run x = new Run();
        t.due("the first day, the least share", x.currency(0, 1, 100000), 1);
        t.due("the last day, the greatest share", x.currency(10000, 100000, 1), 2);
        t.due("by the first", x.converted(10000000, 0), 100);
        t.due("by the first", x.converted(10000000, 9999), 100);
        t.due("by the last, too great for an int", x.converted(10000000, 10000), 1000000000000L);
        t.due("both at their greatest", x.currency(5000, 100000, 100000), 3);
        t.due("by it", x.converted(10000000, 5000), 10000000);
        int[][] wrong = {
            {-1, 1, 1}, {10001, 1, 1}, {Integer.MIN_VALUE, 1, 1}, {Integer.MAX_VALUE, 1, 1},
            {0, 0, 1}, {0, -1, 1}, {0, 100001, 1}, {0, Integer.MIN_VALUE, 1}, {0, Integer.MAX_VALUE, 1},
            {0, 1, 0}, {0, 1, -1}, {0, 1, 100001}, {0, 1, Integer.MIN_VALUE}, {0, 1, Integer.MAX_VALUE},
        };
        for (int[] w : wrong) {
            t.refused("outside", Checks.ARGUMENT, x, "currency", w);
        }
    }

    private static void toldAnewInstead() {
        t.sentence("told anew: instead");
        Run x = new Run();
        t.due("a day", x.currency(7, 2, 1), 1);
        t.due("the same day", x.currency(7, 3, 1), 1);
        t.due("by the new one", x.converted(5, 7), 15);
        t.refused("a wrong one", Checks.ARGUMENT, x, "currency", 7, 0, 1);
        t.due("the next day", x.currency(8, 4, 1), 2);
        t.due("the first again", x.currency(7, 5, 1), 2);
        t.due("by it", x.converted(5, 7), 25);
        t.due("the next day is as it was", x.converted(5, 8), 20);
    }

    private static void eightDays() {
        t.sentence("UnsupportedOperationException: there are eight others");
        Run x = new Run();
        int[] days = {50, 0, 10000, 20, 30, 10, 60, 40};
        for (int n = 0; n < 8; n++) {
            t.due("day " + days[n], x.currency(days[n], 1, 1), n + 1);
        }
        for (int day : new int[] {1, 11, 49, 51, 9999}) {
            t.refused("a ninth day", Checks.ROOM, x, "currency", day, 1, 1);
        }
        t.refused("a ninth day, below 0", Checks.ARGUMENT, x, "currency", -1, 1, 1);
        t.refused("a ninth day, too late", Checks.ARGUMENT, x, "currency", 10001, 1, 1);
        t.refused("a ninth day, up 0", Checks.ARGUMENT, x, "currency", 1, 0, 1);
        t.refused("a ninth day, up too great", Checks.ARGUMENT, x, "currency", 1, 100001, 1);
        t.refused("a ninth day, down 0", Checks.ARGUMENT, x, "currency", 1, 1, 0);
        t.refused("a ninth day, down too great", Checks.ARGUMENT, x, "currency", 1, 1, 100001);
        for (int day : days) {
            t.due("one of the eight anew", x.currency(day, 3, 1), 8);
            t.due("by it", x.converted(7, day), 21);
        }
    }

    private static void theLatestDayNotBehind() {
        t.sentence("by the latest day with one that is not behind it");
        Run x = new Run();
        x.currency(20, 7, 1);
        x.currency(10, 3, 1);
        x.currency(30, 5, 1);
        int[][] dayAndCents = {{9, -1}, {10, 3}, {11, 3}, {19, 3}, {20, 7}, {21, 7}, {29, 7}, {30, 5}, {31, 5}, {10000, 5}};
        for (int[] w : dayAndCents) {
            t.due("on day " + w[0], x.converted(1, w[0]), w[1]);
        }
    }

    private static void restsDropped() {
        t.sentence("rests dropped");
        Run x = new Run();
        x.currency(0, 1, 3);
        int[] due = {0, 0, 0, 1, 1, 1, 2};
        for (int cents = 0; cents < due.length; cents++) {
            t.due(cents + " cents", x.converted(cents, 0), due[cents]);
        }
        x.currency(1, 99999, 100000);
        t.due("a rest of the most", x.converted(9999999, 1), 9999899);
        t.due("no cents", x.converted(0, 1), 0);
    }

    private static void noneYet() {
        t.sentence("-1 without");
        Run x = new Run();
        t.due("the first day", x.converted(0, 0), -1);
        t.due("the last day", x.converted(10000000, 10000), -1);
        x.currency(10000, 1, 1);
        t.due("the day before", x.converted(1, 9999), -1);
        t.due("the day", x.converted(1, 10000), 1);
    }

    private static void centsAndDaysOutside() {
        t.sentence("Cents (0 .. 10000000) in the other currency on a day (0 .. 10000): IllegalArgumentException");
        Run x = new Run();
        for (int turn = 0; turn < 2; turn++) {
            for (int cents : new int[] {-1, 10000001, Integer.MIN_VALUE, Integer.MAX_VALUE}) {
                t.refused("cents outside", Checks.ARGUMENT, x, "converted", cents, 0);
                t.refused("cents outside", Checks.ARGUMENT, x, "converted", cents, 10000);
                t.refused("both outside", Checks.ARGUMENT, x, "converted", cents, 10001);
            }
            for (int day : new int[] {-1, 10001, Integer.MIN_VALUE, Integer.MAX_VALUE}) {
                t.refused("a day outside", Checks.ARGUMENT, x, "converted", 0, day);
                t.refused("a day outside", Checks.ARGUMENT, x, "converted", 10000000, day);
            }
            x.currency(0, 1, 1);
        }
        t.due("the least", x.converted(0, 0), 0);
        t.due("the greatest", x.converted(10000000, 10000), 10000000);
    }
}
