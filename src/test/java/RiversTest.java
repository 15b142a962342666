/** Promises 1 to 8: a new object and what is told of a river. The bounds are in RiversBoundsTest. */
public final class RiversTest {
    private static final Check CHECK = new Check();

    public static void main(String[] args) {
        newObject();
        landing();
        thing();
        put();
        change();
        moves();
        greeting();
        start();
        CHECK.end();
    }

    private static void newObject() {
        CHECK.about("promise 1");
        KnifeTrade x = new KnifeTrade();
        CHECK.due("digest()", x.digest(), new KnifeTrade().digest());
        x.landing(1, 1);
        CHECK.due("count(0) of another one", new KnifeTrade().count(0), 0);
        CHECK.due("NONE", KnifeTrade.NONE, -1);
        CHECK.due("BAD", KnifeTrade.BAD, -2);
        CHECK.due("NO", KnifeTrade.NO, -3);
        CHECK.due("FULL", KnifeTrade.FULL, -4);
    }

    private static void landing() {
        CHECK.about("promise 2");
        KnifeTrade x = new KnifeTrade();
        CHECK.due("landing(-7, 99)", x.landing(-7, 99), 0);
        CHECK.due("landing(6, 2)", x.landing(6, 2), 1);
        CHECK.due("landing(4, 5)", x.landing(4, 5), 2);
        CHECK.due("latest(2)", x.latest(2), 93);
        CHECK.dueRun(x, "up; up; down; down;", 4, 0, 17, 0);
    }

    private static void thing() {
        CHECK.about("promise 3");
        KnifeTrade x = Rivers.plain(1, 0);
        CHECK.due("thing(3, 0)", x.thing(3, 0), 0);
        CHECK.due("thing(5, 20)", x.thing(5, 20), 1);
        x.start(0, 10);
        x.start(1, 10);
        CHECK.dueRun(x, "wait 2;", 1, 0, 2, 0);
        CHECK.dueLoads(x, 10, 7);
    }

    private static void put() {
        CHECK.about("promise 4");
        KnifeTrade x = Rivers.plain(2, 2);
        CHECK.due("put(0, 90)", x.put(0, 90), 500);
        CHECK.due("put(1, 4)", x.put(1, 4), 2);
        CHECK.due("put(2, 1)", x.put(2, 1), -1);
        CHECK.due("put(3, 50)", x.put(3, 50), 100);
        CHECK.due("put(4, 1)", x.put(4, 1), 0);
        CHECK.due("put(5, 1)", x.put(5, 1), -1);
        // Each is a number of its own.
        int[] due = {90, 4, 1, 50, 1, 1};
        for (int what = 0; what < 6; what++) {
            CHECK.due("put(" + what + ", 1)", x.put(what, 1), due[what]);
        }
    }

    /** A change of which no more is told: each 0, back 0, most 99. */
    private static void change() {
        CHECK.about("promise 5");
        KnifeTrade x = Rivers.plain(1, 2);
        x.start(0, 99);
        CHECK.due("change(0, 0, 1, 1, 1)", x.change(0, 0, 1, 1, 1), 0);
        CHECK.due("rate(0, 99, 0)", x.rate(0, 99, 0), 1);
        CHECK.due("change(0, 1, 1, 0, 1)", x.change(0, 1, 1, 0, 1), 1);
        CHECK.dueRun(x, "do 0 99; do 1 99; do 0 1;", 2, 5, 0, 0);
        CHECK.dueLoads(x, 99, 0);
    }

    private static void moves() {
        CHECK.about("promise 6");
        KnifeTrade x = Rivers.plain(1, 2);
        x.change(0, 0, 3, 1, 1);
        x.start(0, 99);
        CHECK.due("moves(0, 9, 30, 99)", x.moves(0, 9, 30, 99), 1);
        CHECK.due("rate(0, 99, 0)", x.rate(0, 99, 0), 14);
        CHECK.due("rate(0, 99, 30)", x.rate(0, 99, 30), 13);
        CHECK.due("moves(0, 1, 0, 2)", x.moves(0, 1, 0, 2), 1);
        CHECK.dueRun(x, "do 0 1; do 0 1; do 0 1;", 2, 5, 0, 0);
        CHECK.dueLoads(x, 92, 2);
    }

    private static void greeting() {
        CHECK.about("promise 7");
        KnifeTrade x = Rivers.plain(2, 2);
        x.start(0, 50);
        CHECK.due("greeting(1, 0, 20, 1, 40, 0)", x.greeting(1, 0, 20, 1, 40, 0), 1);
        CHECK.dueRun(x, "up; down; up;", 3, 0, 3, 1);
        CHECK.dueLoads(x, 10, 40);
        CHECK.due("greeting(1, 0, 0, 0, 0, 90)", x.greeting(1, 0, 0, 0, 0, 90), 1);
        CHECK.dueLoads(x, 50, 0);
    }

    private static void start() {
        CHECK.about("promise 8");
        KnifeTrade x = Rivers.plain(1, 2);
        CHECK.due("start(0, 40)", x.start(0, 40), 0);
        CHECK.due("start(1, 7)", x.start(1, 7), 0);
        CHECK.due("start(0, 41)", x.start(0, 41), 40);
        CHECK.dueLoads(x, 41, 7);
    }
}
