/** Promises 22 to 24: each bound that is told of the last day to leave, of rates and of waits. */
public final class DaysBoundsTest {
    private static final int NONE = KnifeTrade.NONE;
    private static final int BAD = KnifeTrade.BAD;

    private static final Check CHECK = new Check();
    private static final Bounds EMPTY = new Bounds(CHECK, KnifeTrade::new);
    private static final Bounds RICH = new Bounds(CHECK, Rivers::rich);
    private static final Bounds TRADE = new Bounds(CHECK, () -> trade(0, 0, 99));

    public static void main(String[] args) {
        latest();
        latestOfLandingZero();
        latestOnDayNought();
        latestAllTheWay();
        rate();
        rateOfTimes();
        rateOfDays();
        rateAtThePost();
        rateWithoutMost();
        waits();
        waitsNone();
        waitsNotIn999();
        waitsAndRates();
        CHECK.end();
    }

    /** One change at landing 0 of two, of 5 of thing 0. */
    private static KnifeTrade trade(int each, int back, int most) {
        KnifeTrade x = Rivers.plain(2, 2);
        x.change(0, 0, 5, 1, 1);
        x.moves(0, each, back, most);
        return x;
    }

    private static void latest() {
        CHECK.about("promise 22, of a LANDING there");
        EMPTY.refused("latest(v)", (x, v) -> x.latest(v), BAD, Integer.MIN_VALUE, -1, 0, 1, 5, 6);
        RICH.beyond("latest(v)", (x, v) -> x.latest(v), 0, 2, BAD);
        for (int landings = 1; landings <= 6; landings++) {
            KnifeTrade x = Rivers.plain(landings, 0);
            for (int i = 0; i < landings; i++) {
                CHECK.due("latest(" + i + ")", x.latest(i), 100 - i);
            }
            CHECK.due("latest(" + landings + ")", x.latest(landings), BAD);
            CHECK.due("latest(-1)", x.latest(-1), BAD);
        }
    }

    private static void latestOfLandingZero() {
        CHECK.about("promise 22, 'DAY is no more than ICE at LANDING 0'");
        KnifeTrade x = Rivers.plain(1, 0);
        for (int ice : new int[] {1, 2, 399, 400}) {
            x.put(3, ice);
            CHECK.due("latest(0)", x.latest(0), ice);
        }
    }

    private static void latestOnDayNought() {
        CHECK.about("promise 22, 'the last DAY (0 at least) .. none'");
        for (int down = 1; down <= 9; down++) {
            KnifeTrade x = new KnifeTrade();
            x.landing(9, 9);
            x.landing(9, down);
            x.put(3, down);
            CHECK.due("latest(1)", x.latest(1), 0);
            x.put(3, down + 1);
            CHECK.due("latest(1)", x.latest(1), 1);
            if (down > 1) {
                x.put(3, down - 1);
                CHECK.due("latest(1)", x.latest(1), NONE);
                CHECK.due("latest(0)", x.latest(0), down - 1);
            }
        }
    }

    private static void latestAllTheWay() {
        CHECK.about("promise 22, 'going DOWN all the way without waits'");
        KnifeTrade x = new KnifeTrade();
        int sum = 0;
        for (int i = 0; i < 6; i++) {
            x.landing(1, 9 - i);
            sum += i == 0 ? 0 : 9 - i;
            CHECK.due("latest(" + i + ")", x.latest(i), 100 - sum);
        }
        x.put(3, sum);
        CHECK.due("latest(5)", x.latest(5), 0);
        x.put(3, sum - 1);
        CHECK.due("latest(5)", x.latest(5), NONE);
        CHECK.due("latest(4)", x.latest(4), 3);
        x.put(3, 1);
        for (int i = 1; i < 6; i++) {
            CHECK.due("latest(" + i + ")", x.latest(i), NONE);
        }
        CHECK.about("promise 22, neither hands nor greetings nor food are looked at");
        KnifeTrade y = Rivers.rich();
        CHECK.due("latest(2)", y.latest(2), 87);
        y.put(1, 6);
        CHECK.due("latest(2)", y.latest(2), 87);
        CHECK.about("promise 22, as a voyage tells it");
        KnifeTrade z = Rivers.plain(2, 0);
        z.put(3, 9);
        CHECK.due("latest(1)", z.latest(1), 8);
        CHECK.dueRun(z, "up; wait 7; down;", 3, 0, 9, 0);
        CHECK.dueRun(z, "up; wait 8; down;", 2, 2, 10, 1);
    }

    private static void rate() {
        CHECK.about("promise 23, of a CHANGE there");
        EMPTY.refused("rate(v, 0, 0)", (x, v) -> x.rate(v, 0, 0), BAD, -1, 0, 1, 7, 8);
        RICH.range("rate(v, 0, 0)", (x, v) -> x.rate(v, 0, 0), 0, 1, 2, BAD);
        TRADE.range("rate(v, 99, 999)", (x, v) -> x.rate(v, 99, 999), 0, 0, 5, BAD);
        CHECK.about("promise 23, 'so many times (0 .. 99)'");
        TRADE.range("rate(0, v, 0)", (x, v) -> x.rate(0, v, 0), 0, 99, 5, BAD);
        RICH.beyond("rate(0, v, 0)", (x, v) -> x.rate(0, v, 0), 0, 99, BAD);
        CHECK.about("promise 23, 'so many days (0 .. 999)'");
        TRADE.range("rate(0, 0, v)", (x, v) -> x.rate(0, 0, v), 0, 999, 5, BAD);
        RICH.beyond("rate(0, 9, v)", (x, v) -> x.rate(0, 9, v), 0, 999, BAD);
    }

    private static void rateOfTimes() {
        CHECK.about("promise 23, 'A and m .. behind so many times'");
        for (int each = 1; each <= 9; each++) {
            KnifeTrade x = trade(each, 0, 99);
            int[][] cases = {{0, 0}, {each - 1, 0}, {each, 1}, {each + 1, each == 1 ? 2 : 1},
                {2 * each - 1, 1}, {2 * each, 2}, {99, 99 / each}};
            for (int[] c : cases) {
                CHECK.due("rate(0, " + c[0] + ", 0)", x.rate(0, c[0], 0), 5 + c[1]);
                CHECK.due("rate(0, " + c[0] + ", 999)", x.rate(0, c[0], 999), 5 + c[1]);
            }
        }
        KnifeTrade x = trade(0, 1, 99);
        CHECK.due("rate(0, 99, 0), each 0", x.rate(0, 99, 0), 5);
    }

    private static void rateOfDays() {
        CHECK.about("promise 23, 'on DAY 0 .. then so many days'");
        for (int back = 1; back <= 30; back++) {
            KnifeTrade x = trade(1, back, 99);
            int[][] cases = {{0, 99}, {back - 1, 99}, {back, 98}, {2 * back - 1, 98},
                {2 * back, 97}, {999, Math.max(0, 99 - 999 / back)}};
            for (int[] c : cases) {
                CHECK.due("rate(0, 99, " + c[0] + ")", x.rate(0, 99, c[0]), 5 + c[1]);
            }
            // m is 2: 0 from the second multiple on, and no less.
            CHECK.due("rate(0, 2, ..)", x.rate(0, 2, 2 * back - 1), 6);
            CHECK.due("rate(0, 2, ..)", x.rate(0, 2, 2 * back), 5);
            CHECK.due("rate(0, 2, ..)", x.rate(0, 2, 3 * back), 5);
            CHECK.due("rate(0, 0, ..)", x.rate(0, 0, back), 5);
        }
        KnifeTrade x = trade(1, 0, 99);
        CHECK.due("rate(0, 99, 999), back 0", x.rate(0, 99, 999), 104);
    }

    private static void rateAtThePost() {
        CHECK.about("promises 23, 24: at the POST neither");
        KnifeTrade x = trade(1, 0, 99);
        int[][] posts = {{NONE, 104, NONE}, {0, 5, 0}, {1, 104, NONE}};
        for (int[] p : posts) {
            x.put(5, p[0]);
            CHECK.due("rate(0, 99, 999), post " + p[0], x.rate(0, 99, 999), p[1]);
            CHECK.due("waits(0, 99), post " + p[0], x.waits(0, 99), p[2]);
        }
    }

    private static void rateWithoutMost() {
        CHECK.about("promises 23, 24: '(MOST not looked at)'");
        for (int most : new int[] {0, 1, 98, 99}) {
            KnifeTrade x = trade(1, 10, most);
            CHECK.due("rate(0, 99, 0)", x.rate(0, 99, 0), 104);
            CHECK.due("rate(0, 99, 10)", x.rate(0, 99, 10), 103);
            CHECK.due("waits(0, 99)", x.waits(0, 99), 990);
        }
        CHECK.about("promise 23, nor how many there are, nor what was done before");
        KnifeTrade x = trade(1, 10, 99);
        x.start(0, 11);
        CHECK.dueRun(x, "do 0 2;", 1, 0, 0, 0);
        CHECK.due("rate(0, 0, 0)", x.rate(0, 0, 0), 5);
        CHECK.due("waits(0, 0)", x.waits(0, 0), 0);
    }

    private static void waits() {
        CHECK.about("promise 24, of a CHANGE there");
        EMPTY.refused("waits(v, 0)", (x, v) -> x.waits(v, 0), BAD, -1, 0, 1, 7, 8);
        RICH.range("waits(v, 0)", (x, v) -> x.waits(v, 0), 0, 1, 0, BAD);
        TRADE.range("waits(v, 99)", (x, v) -> x.waits(v, 99), 0, 0, 0, BAD);
        CHECK.about("promise 24, 'behind so many times (0 .. 99)'");
        TRADE.range("waits(0, v)", (x, v) -> x.waits(0, v), 0, 99, 0, BAD);
        RICH.beyond("waits(0, v)", (x, v) -> x.waits(0, v), 0, 99, BAD);
    }

    private static void waitsNone() {
        CHECK.about("promise 24, m that is 0 waits for nothing");
        for (int each = 2; each <= 9; each++) {
            KnifeTrade x = trade(each, 0, 99);
            CHECK.due("waits(0, 0)", x.waits(0, 0), 0);
            CHECK.due("waits(0, each - 1)", x.waits(0, each - 1), 0);
            // From then on it never comes back.
            CHECK.due("waits(0, each)", x.waits(0, each), NONE);
            CHECK.due("waits(0, 99)", x.waits(0, 99), NONE);
        }
        KnifeTrade x = trade(0, 0, 99);
        CHECK.due("waits(0, 99), each 0", x.waits(0, 99), 0);
    }

    private static void waitsNotIn999() {
        CHECK.about("promise 24, 'none: not in 999'");
        // 999 is 37 times 27 and 111 times 9; 1000 is 40 times 25 and 50 times 20.
        int[][] cases = {{27, 37, 999}, {27, 38, NONE}, {25, 39, 975}, {25, 40, NONE}, {20, 49, 980},
            {20, 50, NONE}, {30, 33, 990}, {30, 34, NONE}, {10, 99, 990}, {11, 90, 990}, {11, 91, NONE},
            {1, 99, 99}, {1, 1, 1}, {30, 1, 30}};
        for (int[] c : cases) {
            KnifeTrade x = trade(1, c[0], 99);
            CHECK.due("waits(0, " + c[1] + "), back " + c[0], x.waits(0, c[1]), c[2]);
        }
    }

    /** The first day on which the rate is what it was. */
    private static void waitsAndRates() {
        CHECK.about("promises 23 and 24 together");
        for (int each = 1; each <= 9; each += 2) {
            for (int back = 0; back <= 30; back += 5) {
                KnifeTrade x = trade(each, back, 99);
                for (int times = 0; times <= 99; times += 9) {
                    int days = x.waits(0, times);
                    int last = days == NONE ? 999 : days;
                    CHECK.due("rate(0, " + times + ", " + last + ") is 5", x.rate(0, times, last) == 5 ? 1 : 0,
                            days == NONE ? 0 : 1);
                    if (days > 0) {
                        CHECK.due("rate(0, " + times + ", a day before)", x.rate(0, times, days - 1), 6);
                    }
                }
            }
        }
    }
}
