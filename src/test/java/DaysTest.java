/** Promises 22 to 24: the last day to leave, rates, and waits. */
public final class DaysTest {
    private static final Check CHECK = new Check();

    public static void main(String[] args) {
        latest();
        rate();
        rateDayByDay();
        waits();
        CHECK.end();
    }

    private static void latest() {
        CHECK.about("promise 22");
        KnifeTrade x = new KnifeTrade();
        CHECK.due("latest(0)", x.latest(0), -2);
        x.landing(9, 9);
        x.landing(9, 2);
        x.landing(9, 5);
        CHECK.due("latest(-1)", x.latest(-1), -2);
        CHECK.due("latest(3)", x.latest(3), -2);
        CHECK.due("latest(0)", x.latest(0), 100);
        CHECK.due("latest(1)", x.latest(1), 98);
        CHECK.due("latest(2)", x.latest(2), 93);
        x.put(3, 7);
        CHECK.due("latest(2)", x.latest(2), 0);
        x.put(3, 6);
        CHECK.due("latest(2)", x.latest(2), -1);
        CHECK.due("latest(1)", x.latest(1), 4);
        x.put(1, 6);
        CHECK.due("latest(1)", x.latest(1), 4);
        x.put(3, 1);
        CHECK.due("latest(1)", x.latest(1), -1);
        CHECK.due("latest(0)", x.latest(0), 1);
    }

    private static KnifeTrade river() {
        KnifeTrade x = new KnifeTrade();
        x.landing(0, 0);
        x.landing(1, 1);
        x.thing(1, 0);
        x.thing(1, 0);
        x.change(1, 0, 5, 1, 1);
        return x;
    }

    private static void rate() {
        CHECK.about("promise 23");
        KnifeTrade x = new KnifeTrade();
        CHECK.due("rate(0, 0, 0)", x.rate(0, 0, 0), -2);
        x = river();
        CHECK.due("rate(-1, 0, 0)", x.rate(-1, 0, 0), -2);
        CHECK.due("rate(1, 0, 0)", x.rate(1, 0, 0), -2);
        CHECK.due("rate(0, -1, 0)", x.rate(0, -1, 0), -2);
        CHECK.due("rate(0, 100, 0)", x.rate(0, 100, 0), -2);
        CHECK.due("rate(0, 0, -1)", x.rate(0, 0, -1), -2);
        CHECK.due("rate(0, 0, 1000)", x.rate(0, 0, 1000), -2);
        CHECK.due("rate(0, 99, 999)", x.rate(0, 99, 999), 5);
        x.moves(0, 3, 7, 0);
        CHECK.due("rate(0, 0, 0)", x.rate(0, 0, 0), 5);
        CHECK.due("rate(0, 2, 0)", x.rate(0, 2, 0), 5);
        CHECK.due("rate(0, 3, 0)", x.rate(0, 3, 0), 6);
        CHECK.due("rate(0, 99, 0)", x.rate(0, 99, 0), 38);
        CHECK.due("rate(0, 99, 6)", x.rate(0, 99, 6), 38);
        CHECK.due("rate(0, 99, 7)", x.rate(0, 99, 7), 37);
        CHECK.due("rate(0, 99, 13)", x.rate(0, 99, 13), 37);
        CHECK.due("rate(0, 99, 14)", x.rate(0, 99, 14), 36);
        CHECK.due("rate(0, 99, 999)", x.rate(0, 99, 999), 5);
        x.moves(0, 3, 0, 99);
        CHECK.due("rate(0, 99, 999)", x.rate(0, 99, 999), 38);
        x.put(5, 1);
        CHECK.due("rate(0, 99, 0)", x.rate(0, 99, 0), 5);
        x.put(5, 0);
        CHECK.due("rate(0, 99, 0)", x.rate(0, 99, 0), 38);
    }

    /** The rate is what a voyage gives that did so many and waited so many days. */
    private static void rateDayByDay() {
        CHECK.about("promise 23");
        for (int each = 0; each <= 9; each += 3) {
            for (int back = 0; back <= 5; back++) {
                KnifeTrade x = new KnifeTrade();
                x.landing(0, 0);
                x.thing(1, 0);
                x.thing(1, 0);
                x.change(0, 0, 2, 1, 1);
                x.moves(0, each, back, 99);
                x.start(0, 99);
                for (int days = 1; days <= 12; days++) {
                    Check.tell(x, 0, "do 0 13; wait " + days + ";");
                    int before = x.load(0, 0);
                    Check.tell(x, 0, "do 0 13; wait " + days + "; do 0 1;");
                    CHECK.due("rate(0, 13, " + days + ")", x.rate(0, 13, days), before - x.load(0, 0));
                }
            }
        }
    }

    private static void waits() {
        CHECK.about("promise 24");
        KnifeTrade x = new KnifeTrade();
        CHECK.due("waits(0, 0)", x.waits(0, 0), -2);
        x = river();
        CHECK.due("waits(-1, 0)", x.waits(-1, 0), -2);
        CHECK.due("waits(1, 0)", x.waits(1, 0), -2);
        CHECK.due("waits(0, -1)", x.waits(0, -1), -2);
        CHECK.due("waits(0, 100)", x.waits(0, 100), -2);
        CHECK.due("waits(0, 99)", x.waits(0, 99), 0);
        x.moves(0, 2, 0, 0);
        CHECK.due("waits(0, 1)", x.waits(0, 1), 0);
        CHECK.due("waits(0, 2)", x.waits(0, 2), -1);
        x.moves(0, 2, 5, 0);
        CHECK.due("waits(0, 0)", x.waits(0, 0), 0);
        CHECK.due("waits(0, 1)", x.waits(0, 1), 0);
        CHECK.due("waits(0, 2)", x.waits(0, 2), 5);
        CHECK.due("waits(0, 9)", x.waits(0, 9), 20);
        CHECK.due("waits(0, 99)", x.waits(0, 99), 245);
        x.moves(0, 1, 27, 99);
        CHECK.due("waits(0, 37)", x.waits(0, 37), 999);
        CHECK.due("waits(0, 38)", x.waits(0, 38), -1);
        x.moves(0, 1, 20, 99);
        CHECK.due("waits(0, 49)", x.waits(0, 49), 980);
        CHECK.due("waits(0, 50)", x.waits(0, 50), -1);
        x.put(5, 1);
        CHECK.due("waits(0, 50)", x.waits(0, 50), 0);
        x.put(5, 0);
        CHECK.due("waits(0, 50)", x.waits(0, 50), -1);
    }
}
