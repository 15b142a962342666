/** Promises 1 to 8: a new object and what is told of a river. */
public final class RiversTest {
    private static final Check CHECK = new Check();

    public static void main(String[] args) {
        newObject();
        landing();
        thing();
        put();
        change();
        changesAsTold();
        moves();
        greeting();
        start();
        CHECK.end();
    }

    private static KnifeTrade river(int landings, int things) {
        KnifeTrade x = new KnifeTrade();
        for (int i = 0; i < landings; i++) {
            x.landing(1, 1);
        }
        for (int i = 0; i < things; i++) {
            x.thing(1, 0);
        }
        return x;
    }

    private static void newObject() {
        CHECK.about("promise 1");
        KnifeTrade x = new KnifeTrade();
        for (int what = 0; what <= 4; what++) {
            CHECK.due("count(" + what + ")", x.count(what), 0);
        }
        CHECK.duePart(x, 0, 1);
        CHECK.due("put(0, 100)", x.put(0, 100), 100);
        CHECK.due("put(1, 2)", x.put(1, 2), 2);
        CHECK.due("put(2, NONE)", x.put(2, -1), -1);
        CHECK.due("put(3, 100)", x.put(3, 100), 100);
        CHECK.due("put(4, 0)", x.put(4, 0), 0);
        CHECK.due("put(5, NONE)", x.put(5, -1), -1);
        CHECK.due("from(0)", x.from(0), -3);
        CHECK.due("from(1)", x.from(1), -3);
        CHECK.due("NONE", KnifeTrade.NONE, -1);
        CHECK.due("BAD", KnifeTrade.BAD, -2);
        CHECK.due("NO", KnifeTrade.NO, -3);
        CHECK.due("FULL", KnifeTrade.FULL, -4);
    }

    private static void landing() {
        CHECK.about("promise 2");
        KnifeTrade x = new KnifeTrade();
        CHECK.due("landing(-7, 99)", x.landing(-7, 99), 0);
        int[][] wrong = {{0, 1}, {10, 1}, {1, 0}, {1, 10}, {-1, 1}, {1, -1},
            {Integer.MIN_VALUE, 1}, {1, Integer.MAX_VALUE}};
        dueBadLandings(x, wrong);
        CHECK.due("count(0)", x.count(0), 1);
        CHECK.due("landing(1, 9)", x.landing(1, 9), 1);
        CHECK.due("landing(9, 1)", x.landing(9, 1), 2);
        for (int i = 3; i < 6; i++) {
            CHECK.due("landing(3, 3)", x.landing(3, 3), i);
        }
        CHECK.due("landing(3, 3)", x.landing(3, 3), -4);
        dueBadLandings(x, wrong);
        CHECK.due("count(0)", x.count(0), 6);
        CHECK.due("latest(2)", x.latest(2), 90);
        KnifeTrade y = new KnifeTrade();
        y.landing(0, 0);
        KnifeTrade z = new KnifeTrade();
        z.landing(9, 9);
        CHECK.due("digest()", y.digest(), z.digest());
    }

    private static void dueBadLandings(KnifeTrade x, int[][] wrong) {
        for (int[] days : wrong) {
            CHECK.due("landing(" + days[0] + ", " + days[1] + ")", x.landing(days[0], days[1]), -2);
        }
    }

    private static void thing() {
        CHECK.about("promise 3");
        KnifeTrade x = new KnifeTrade();
        int[][] wrong = {{0, 0}, {21, 0}, {1, -1}, {1, 51}, {Integer.MAX_VALUE, 0},
            {1, Integer.MIN_VALUE}};
        for (int[] told : wrong) {
            CHECK.due("thing(" + told[0] + ", " + told[1] + ")", x.thing(told[0], told[1]), -2);
        }
        CHECK.due("count(1)", x.count(1), 0);
        CHECK.due("thing(20, 0)", x.thing(20, 0), 0);
        CHECK.due("thing(1, 50)", x.thing(1, 50), 1);
        for (int i = 2; i < 6; i++) {
            CHECK.due("thing(3, 3)", x.thing(3, 3), i);
        }
        CHECK.due("thing(3, 3)", x.thing(3, 3), -4);
        CHECK.due("thing(0, 3)", x.thing(0, 3), -2);
        CHECK.due("count(1)", x.count(1), 6);
    }

    private static void put() {
        CHECK.about("promise 4");
        KnifeTrade x = river(2, 2);
        // what, least, most, at first
        int[][] numbers = {{0, 1, 500, 100}, {1, 1, 6, 2}, {2, -1, 1, -1}, {3, 1, 400, 100},
            {4, 0, 5, 0}, {5, -1, 1, -1}};
        for (int[] n : numbers) {
            int what = n[0];
            CHECK.due("put(" + what + ", below)", x.put(what, n[1] - 1), -10);
            CHECK.due("put(" + what + ", above)", x.put(what, n[2] + 1), -10);
            CHECK.due("put(" + what + ", least)", x.put(what, n[1]), n[3]);
            CHECK.due("put(" + what + ", most)", x.put(what, n[2]), n[1]);
            CHECK.due("put(" + what + ", MAX)", x.put(what, Integer.MAX_VALUE), -10);
            CHECK.due("put(" + what + ", MIN)", x.put(what, Integer.MIN_VALUE), -10);
            CHECK.due("put(" + what + ", first)", x.put(what, n[3]), n[2]);
        }
        CHECK.due("put(-1, 1)", x.put(-1, 1), -10);
        CHECK.due("put(6, 1)", x.put(6, 1), -10);
        KnifeTrade y = new KnifeTrade();
        CHECK.due("put(2, 0)", y.put(2, 0), -10);
        CHECK.due("put(5, 0)", y.put(5, 0), -10);
        CHECK.due("put(4, 5)", y.put(4, 5), 0);
    }

    private static void change() {
        CHECK.about("promise 5");
        KnifeTrade x = river(2, 2);
        int[][] wrong = {{-1, 0, 1, 1, 1}, {2, 0, 1, 1, 1}, {0, -1, 1, 1, 1}, {0, 2, 1, 1, 1},
            {0, 0, 0, 1, 1}, {0, 0, 21, 1, 1}, {0, 0, 1, -1, 1}, {0, 0, 1, 2, 1},
            {0, 0, 1, 1, 0}, {0, 0, 1, 1, 21}, {0, 1, 1, 1, 1}, {0, 0, 1, 0, 1}};
        dueBadChanges(x, wrong);
        CHECK.due("count(2)", x.count(2), 0);
        CHECK.due("change(1, 0, 20, 1, 1)", x.change(1, 0, 20, 1, 1), 0);
        CHECK.due("change(0, 1, 1, 0, 20)", x.change(0, 1, 1, 0, 20), 1);
        for (int i = 2; i < 8; i++) {
            CHECK.due("change(0, 0, 1, 1, 1)", x.change(0, 0, 1, 1, 1), i);
        }
        CHECK.due("change(0, 0, 1, 1, 1)", x.change(0, 0, 1, 1, 1), -4);
        dueBadChanges(x, wrong);
        CHECK.due("count(2)", x.count(2), 8);
    }

    private static void dueBadChanges(KnifeTrade x, int[][] wrong) {
        for (int[] c : wrong) {
            CHECK.due("change of " + java.util.Arrays.toString(c),
                    x.change(c[0], c[1], c[2], c[3], c[4]), -2);
        }
    }

    /** A change of which no more is told: each 0, back 0, most 99. */
    private static void changesAsTold() {
        CHECK.about("promise 5");
        KnifeTrade x = river(1, 2);
        x.put(0, 500);
        x.start(0, 99);
        x.change(0, 0, 1, 1, 1);
        CHECK.due("rate(0, 99, 0)", x.rate(0, 99, 0), 1);
        x.change(0, 1, 1, 0, 1);
        CHECK.dueRun(x, "do 0 99; do 1 99; do 0 1;", 2, 5, 0, 0);
        CHECK.dueLoads(x, 99, 0);
    }

    private static void moves() {
        CHECK.about("promise 6");
        KnifeTrade x = river(1, 2);
        CHECK.due("moves(0, 1, 1, 1)", x.moves(0, 1, 1, 1), -2);
        x.change(0, 0, 3, 1, 1);
        x.start(0, 99);
        long before = x.digest();
        int[][] wrong = {{-1, 0, 0, 0}, {1, 0, 0, 0}, {0, -1, 0, 0}, {0, 10, 0, 0}, {0, 0, -1, 0},
            {0, 0, 31, 0}, {0, 0, 0, -1}, {0, 0, 0, 100}};
        for (int[] m : wrong) {
            CHECK.due("moves of " + java.util.Arrays.toString(m), x.moves(m[0], m[1], m[2], m[3]), -2);
        }
        CHECK.due("digest()", x.digest(), before);
        CHECK.due("moves(0, 9, 30, 99)", x.moves(0, 9, 30, 99), 1);
        CHECK.due("rate(0, 99, 0)", x.rate(0, 99, 0), 14);
        CHECK.due("rate(0, 99, 30)", x.rate(0, 99, 30), 13);
        CHECK.due("moves(0, 0, 0, 0)", x.moves(0, 0, 0, 0), 1);
        CHECK.dueRun(x, "do 0 1;", 0, 5, 0, 0);
        CHECK.due("moves(0, 1, 0, 2)", x.moves(0, 1, 0, 2), 1);
        CHECK.dueRun(x, "do 0 1; do 0 1; do 0 1;", 2, 5, 0, 0);
        CHECK.dueLoads(x, 92, 2);
    }

    private static void greeting() {
        CHECK.about("promise 7");
        KnifeTrade x = river(2, 2);
        x.start(0, 50);
        long before = x.digest();
        int[][] wrong = {{-1, 0, 1, 1, 1, 1}, {2, 0, 1, 1, 1, 1}, {1, -1, 1, 1, 1, 1},
            {1, 2, 1, 1, 1, 1}, {1, 0, -1, 1, 1, 1}, {1, 0, 21, 1, 1, 1}, {1, 0, 1, -1, 1, 1},
            {1, 0, 1, 2, 1, 1}, {1, 0, 1, 1, -1, 1}, {1, 0, 1, 1, 41, 1}, {1, 0, 1, 1, 1, -1},
            {1, 0, 1, 1, 1, 91}};
        for (int[] g : wrong) {
            CHECK.due("greeting of " + java.util.Arrays.toString(g),
                    x.greeting(g[0], g[1], g[2], g[3], g[4], g[5]), -2);
        }
        CHECK.due("digest()", x.digest(), before);
        CHECK.due("greeting(1, 0, 20, 1, 40, 0)", x.greeting(1, 0, 20, 1, 40, 0), 1);
        CHECK.dueRun(x, "up; down; up;", 3, 0, 3, 1);
        CHECK.dueLoads(x, 10, 40);
        CHECK.due("greeting(1, 0, 0, 0, 0, 90)", x.greeting(1, 0, 0, 0, 0, 90), 1);
        CHECK.dueLoads(x, 50, 0);
    }

    private static void start() {
        CHECK.about("promise 8");
        KnifeTrade x = new KnifeTrade();
        CHECK.due("start(0, 1)", x.start(0, 1), -2);
        x.landing(1, 1);
        x.thing(1, 0);
        CHECK.due("start(0, 99)", x.start(0, 99), 0);
        CHECK.due("start(0, 100)", x.start(0, 100), -2);
        CHECK.due("start(0, -1)", x.start(0, -1), -2);
        CHECK.due("start(1, 5)", x.start(1, 5), -2);
        CHECK.due("start(-1, 5)", x.start(-1, 5), -2);
        CHECK.due("load(0, 0)", x.load(0, 0), 99);
        CHECK.due("start(0, 0)", x.start(0, 0), 99);
        CHECK.due("load(0, 0)", x.load(0, 0), 0);
    }
}
