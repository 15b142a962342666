/** Promises 1 to 8: each bound that is told of a river, at both ends and beside them. */
public final class RiversBoundsTest {
    private static final int NONE = KnifeTrade.NONE;
    private static final int BAD = KnifeTrade.BAD;
    private static final int FULL = KnifeTrade.FULL;
    private static final int BAD_NUMBER = -10;
    private static final int MIN = Integer.MIN_VALUE;
    private static final int MAX = Integer.MAX_VALUE;

    private static final Check CHECK = new Check();
    private static final Bounds EMPTY = new Bounds(CHECK, KnifeTrade::new);
    private static final Bounds RICH = new Bounds(CHECK, Rivers::rich);
    private static final Bounds WHOLE = new Bounds(CHECK, Rivers::full);

    public static void main(String[] args) {
        nothingIsThere();
        numbersAtFirst();
        landing();
        landingFull();
        thing();
        thingFull();
        put();
        putFood();
        putHome();
        putPost();
        putWhatItWas();
        change();
        changeUnlike();
        changeOfNothing();
        changeFull();
        changeAsItComes();
        moves();
        movesOfNothing();
        greeting();
        greetingOfLikeThings();
        greetingOfNothing();
        greetingAtFirst();
        start();
        startWhatItWas();
        CHECK.end();
    }

    /** On a new object there is nothing that a call could be about. */
    private static void nothingIsThere() {
        CHECK.about("promise 1, 'nothing is there'");
        KnifeTrade x = new KnifeTrade();
        for (int what = 0; what <= 4; what++) {
            CHECK.due("count(" + what + ")", x.count(what), 0);
        }
        for (int text = 0; text < 2; text++) {
            CHECK.due("fault(" + text + ")", x.fault(text), NONE);
            CHECK.due("run(" + text + ", 0)", x.run(text, 0), -3);
            CHECK.due("load(" + text + ", 0)", x.load(text, 0), BAD);
            CHECK.due("clear(" + text + ")", x.clear(text), 0);
            CHECK.due("from(" + text + ")", x.from(text), -3);
        }
        CHECK.due("rival(0, 0)", x.rival(0, 0), -3);
        CHECK.due("rival(0, 4)", x.rival(0, 4), BAD);
        CHECK.due("ring(NONE)", x.ring(NONE), -5);
        CHECK.due("price(0)", x.price(0), BAD);
        CHECK.due("best(0, NONE)", x.best(0, NONE), -20);
        CHECK.due("worth(0, 0)", x.worth(0, 0), -1000);
        CHECK.due("lack(0)", x.lack(0), -3);
        CHECK.due("crew(0)", x.crew(0), -3);
        CHECK.due("where(0)", x.where(0), -3);
        CHECK.due("latest(0)", x.latest(0), BAD);
        CHECK.due("rate(0, 0, 0)", x.rate(0, 0, 0), BAD);
        CHECK.due("waits(0, 0)", x.waits(0, 0), BAD);
        CHECK.duePart(x, 0, 1);
    }

    private static void numbersAtFirst() {
        CHECK.about("promise 1, the numbers at first");
        int[] first = {100, 2, NONE, 100, 0, NONE};
        for (int what = 0; what < first.length; what++) {
            KnifeTrade x = new KnifeTrade();
            CHECK.due("put(" + what + ", its first)", x.put(what, first[what]), first[what]);
        }
    }

    private static void landing() {
        CHECK.about("promise 2, 'UP days (1 .. 9)'");
        RICH.range("landing(v, 1)", (x, v) -> x.landing(v, 1), 1, 9, 3, BAD);
        CHECK.about("promise 2, 'DOWN days (1 .. 9)'");
        RICH.range("landing(1, v)", (x, v) -> x.landing(1, v), 1, 9, 3, BAD);
        CHECK.about("promise 2, 'for LANDING 0 days are not looked at'");
        EMPTY.taken("landing(v, 1)", (x, v) -> x.landing(v, 1), 0, MIN, -1, 0, 1, 9, 10, MAX);
        EMPTY.taken("landing(1, v)", (x, v) -> x.landing(1, v), 0, MIN, -1, 0, 1, 9, 10, MAX);
        KnifeTrade one = new KnifeTrade();
        one.landing(MIN, MAX);
        KnifeTrade other = new KnifeTrade();
        other.landing(9, 9);
        CHECK.due("digest()", one.digest(), other.digest());
        CHECK.due("latest(0)", one.latest(0), 100);
        CHECK.about("promise 2, 'each but the first one'");
        CHECK.due("landing(0, 1)", one.landing(0, 1), BAD);
        CHECK.due("landing(1, 0)", one.landing(1, 0), BAD);
        CHECK.due("count(0)", one.count(0), 1);
    }

    private static void landingFull() {
        CHECK.about("promise 2, 'LANDINGS 0 .. 5'");
        KnifeTrade x = new KnifeTrade();
        for (int i = 0; i <= 5; i++) {
            CHECK.due("landing(1, 1)", x.landing(1, 1), i);
            CHECK.due("count(0)", x.count(0), i + 1);
        }
        CHECK.due("landing(1, 1)", x.landing(1, 1), FULL);
        CHECK.about("promise 2, 'FULL: 6'");
        WHOLE.refused("landing(v, v)", (y, v) -> y.landing(v, v), FULL, 1, 9);
        CHECK.about("promise 2, BAD comes ahead of FULL");
        WHOLE.beyond("landing(v, 1)", (y, v) -> y.landing(v, 1), 1, 9, BAD);
        WHOLE.beyond("landing(1, v)", (y, v) -> y.landing(1, v), 1, 9, BAD);
    }

    private static void thing() {
        CHECK.about("promise 3, 'a WEIGHT (1 .. 20)'");
        EMPTY.range("thing(v, 0)", (x, v) -> x.thing(v, 0), 1, 20, 0, BAD);
        RICH.range("thing(v, 0)", (x, v) -> x.thing(v, 0), 1, 20, 3, BAD);
        CHECK.about("promise 3, 'SPOIL (0 .. 50 of 100)'");
        EMPTY.range("thing(1, v)", (x, v) -> x.thing(1, v), 0, 50, 0, BAD);
        RICH.range("thing(1, v)", (x, v) -> x.thing(1, v), 0, 50, 3, BAD);
    }

    private static void thingFull() {
        CHECK.about("promise 3, 'THINGS 0 .. 5'");
        KnifeTrade x = new KnifeTrade();
        for (int i = 0; i <= 5; i++) {
            CHECK.due("thing(1, 0)", x.thing(1, 0), i);
            CHECK.due("count(1)", x.count(1), i + 1);
        }
        CHECK.due("thing(1, 0)", x.thing(1, 0), FULL);
        CHECK.about("promise 3, 'FULL: 6'");
        WHOLE.refused("thing(v, v)", (y, v) -> y.thing(v, v), FULL, 1, 20);
        CHECK.about("promise 3, BAD comes ahead of FULL");
        WHOLE.beyond("thing(v, 0)", (y, v) -> y.thing(v, 0), 1, 20, BAD);
        WHOLE.beyond("thing(1, v)", (y, v) -> y.thing(1, v), 0, 50, BAD);
    }

    private static void put() {
        CHECK.about("promise 4, 'NUMBERS: 0 .. 5'");
        RICH.beyond("put(v, 1)", (x, v) -> x.put(v, 1), 0, 5, BAD_NUMBER);
        EMPTY.taken("put(v, NONE or 1)", (x, v) -> x.put(v, v == 2 || v == 5 ? NONE : 1) > -10 ? 1 : 0,
                1, 0, 1, 2, 3, 4, 5);
        CHECK.about("promise 4, 'ROOM (1 .. 500'");
        RICH.range("put(0, v)", (x, v) -> x.put(0, v), 1, 500, 300, BAD_NUMBER);
        CHECK.about("promise 4, 'HANDS (1 .. 6'");
        RICH.range("put(1, v)", (x, v) -> x.put(1, v), 1, 6, 3, BAD_NUMBER);
        CHECK.about("promise 4, 'ICE (1 .. 400'");
        RICH.range("put(3, v)", (x, v) -> x.put(3, v), 1, 400, 90, BAD_NUMBER);
    }

    private static void putFood() {
        CHECK.about("promise 4, 'FOOD (a THING there; NONE'");
        RICH.range("put(2, v)", (x, v) -> x.put(2, v), NONE, 2, 2, BAD_NUMBER);
        RICH.taken("put(2, v)", (x, v) -> x.put(2, v), 2, 0);
        EMPTY.range("put(2, v)", (x, v) -> x.put(2, v), NONE, NONE, NONE, BAD_NUMBER);
        WHOLE.range("put(2, v)", (x, v) -> x.put(2, v), NONE, 5, NONE, BAD_NUMBER);
        // A landing of that number is no thing.
        Bounds landingsAlone = new Bounds(CHECK, () -> Rivers.plain(6, 1));
        landingsAlone.range("put(2, v)", (x, v) -> x.put(2, v), NONE, 0, NONE, BAD_NUMBER);
    }

    private static void putHome() {
        CHECK.about("promise 4, 'HOME (0 .. 5', there or not");
        EMPTY.range("put(4, v)", (x, v) -> x.put(4, v), 0, 5, 0, BAD_NUMBER);
        RICH.range("put(4, v)", (x, v) -> x.put(4, v), 0, 5, 1, BAD_NUMBER);
        WHOLE.range("put(4, v)", (x, v) -> x.put(4, v), 0, 5, 0, BAD_NUMBER);
    }

    private static void putPost() {
        CHECK.about("promise 4, 'POST (a LANDING there; NONE'");
        RICH.range("put(5, v)", (x, v) -> x.put(5, v), NONE, 2, 2, BAD_NUMBER);
        RICH.taken("put(5, v)", (x, v) -> x.put(5, v), 2, 0);
        EMPTY.range("put(5, v)", (x, v) -> x.put(5, v), NONE, NONE, NONE, BAD_NUMBER);
        WHOLE.range("put(5, v)", (x, v) -> x.put(5, v), NONE, 5, NONE, BAD_NUMBER);
        // A thing of that number is no landing.
        Bounds thingsAlone = new Bounds(CHECK, () -> Rivers.plain(1, 6));
        thingsAlone.range("put(5, v)", (x, v) -> x.put(5, v), NONE, 0, NONE, BAD_NUMBER);
    }

    private static void putWhatItWas() {
        CHECK.about("promise 4, 'what it was'");
        int[][] ends = {{1, 500}, {1, 6}, {NONE, 5}, {1, 400}, {0, 5}, {NONE, 5}};
        for (int what = 0; what < ends.length; what++) {
            KnifeTrade x = Rivers.full();
            int least = ends[what][0];
            int most = ends[what][1];
            x.put(what, most);
            CHECK.due("put(" + what + ", " + least + ")", x.put(what, least), most);
            CHECK.due("put(" + what + ", " + most + ")", x.put(what, most), least);
            CHECK.due("put(" + what + ", too much)", x.put(what, most + 1), BAD_NUMBER);
            CHECK.due("put(" + what + ", " + most + ")", x.put(what, most), most);
        }
    }

    private static void change() {
        CHECK.about("promise 5, 'at a LANDING'");
        RICH.range("change(v, 0, 1, 1, 1)", (x, v) -> x.change(v, 0, 1, 1, 1), 0, 2, 2, BAD);
        CHECK.about("promise 5, 'of THING x'");
        RICH.range("change(0, v, 1, 1, 1)", (x, v) -> x.change(0, v, 1, 1, 1), 0, 2, 2, BAD);
        CHECK.about("promise 5, 'A (1 .. 20)'");
        RICH.range("change(0, 0, v, 1, 1)", (x, v) -> x.change(0, 0, v, 1, 1), 1, 20, 2, BAD);
        CHECK.about("promise 5, 'of THING y'");
        RICH.range("change(0, 1, 1, v, 1)", (x, v) -> x.change(0, 1, 1, v, 1), 0, 2, 2, BAD);
        CHECK.about("promise 5, 'B (1 .. 20)'");
        RICH.range("change(0, 0, 1, 1, v)", (x, v) -> x.change(0, 0, 1, 1, v), 1, 20, 2, BAD);
    }

    private static void changeUnlike() {
        CHECK.about("promise 5, '(unlike)'");
        RICH.refused("change(0, v, 1, v, 1)", (x, v) -> x.change(0, v, 1, v, 1), BAD, 0, 1, 2);
    }

    private static void changeOfNothing() {
        CHECK.about("promise 5, of what is not there");
        EMPTY.unchanged("change(0, 0, 1, 1, 1)", (x, v) -> x.change(0, 0, 1, 1, 1), BAD);
        Bounds noThings = new Bounds(CHECK, () -> Rivers.plain(1, 0));
        noThings.unchanged("change(0, 0, 1, 1, 1)", (x, v) -> x.change(0, 0, 1, 1, 1), BAD);
        Bounds oneThing = new Bounds(CHECK, () -> Rivers.plain(1, 1));
        oneThing.unchanged("change(0, 0, 1, 1, 1)", (x, v) -> x.change(0, 0, 1, 1, 1), BAD);
        Bounds noLandings = new Bounds(CHECK, () -> Rivers.plain(0, 2));
        noLandings.unchanged("change(0, 0, 1, 1, 1)", (x, v) -> x.change(0, 0, 1, 1, 1), BAD);
        CHECK.due("change(0, 0, 1, 1, 1)", Rivers.plain(1, 2).change(0, 0, 1, 1, 1), 0);
    }

    private static void changeFull() {
        CHECK.about("promise 5, 'CHANGES 0 .. 7'");
        KnifeTrade x = Rivers.plain(1, 2);
        for (int i = 0; i <= 7; i++) {
            CHECK.due("change(0, 0, 1, 1, 1)", x.change(0, 0, 1, 1, 1), i);
            CHECK.due("count(2)", x.count(2), i + 1);
        }
        CHECK.due("change(0, 0, 1, 1, 1)", x.change(0, 0, 1, 1, 1), FULL);
        CHECK.about("promise 5, 'FULL: 8'");
        WHOLE.refused("change(0, 0, v, 1, v)", (y, v) -> y.change(0, 0, v, 1, v), FULL, 1, 20);
        CHECK.about("promise 5, BAD comes ahead of FULL");
        WHOLE.beyond("change(v, 0, 1, 1, 1)", (y, v) -> y.change(v, 0, 1, 1, 1), 0, 5, BAD);
        WHOLE.beyond("change(0, v, 1, 1, 1)", (y, v) -> y.change(0, v, 1, 1, 1), 0, 5, BAD);
        WHOLE.beyond("change(0, 0, v, 1, 1)", (y, v) -> y.change(0, 0, v, 1, 1), 1, 20, BAD);
        WHOLE.beyond("change(0, 0, 1, v, 1)", (y, v) -> y.change(0, 0, 1, v, 1), 0, 5, BAD);
        WHOLE.beyond("change(0, 0, 1, 1, v)", (y, v) -> y.change(0, 0, 1, 1, v), 1, 20, BAD);
        WHOLE.refused("change(0, v, 1, v, 1)", (y, v) -> y.change(0, v, 1, v, 1), BAD, 0, 5);
    }

    private static void changeAsItComes() {
        CHECK.about("promise 5, 'EACH, BACK, MOST are 0, 0, 99'");
        KnifeTrade told = Rivers.plain(1, 2);
        told.change(0, 0, 3, 1, 4);
        KnifeTrade more = Rivers.plain(1, 2);
        more.change(0, 0, 3, 1, 4);
        more.moves(0, 0, 0, 99);
        CHECK.due("digest()", told.digest(), more.digest());
    }

    private static void moves() {
        CHECK.about("promise 6, 'of a CHANGE'");
        RICH.range("moves(v, 1, 1, 1)", (x, v) -> x.moves(v, 1, 1, 1), 0, 1, 1, BAD);
        WHOLE.range("moves(v, 1, 1, 1)", (x, v) -> x.moves(v, 1, 1, 1), 0, 7, 1, BAD);
        CHECK.about("promise 6, 'EACH (0 .. 9)'");
        RICH.range("moves(0, v, 1, 1)", (x, v) -> x.moves(0, v, 1, 1), 0, 9, 1, BAD);
        CHECK.about("promise 6, 'BACK (0 .. 30)'");
        RICH.range("moves(0, 1, v, 1)", (x, v) -> x.moves(0, 1, v, 1), 0, 30, 1, BAD);
        CHECK.about("promise 6, 'MOST (0 .. 99)'");
        RICH.range("moves(0, 1, 1, v)", (x, v) -> x.moves(0, 1, 1, v), 0, 99, 1, BAD);
    }

    private static void movesOfNothing() {
        CHECK.about("promise 6, where no CHANGE is there");
        EMPTY.refused("moves(v, 0, 0, 0)", (x, v) -> x.moves(v, 0, 0, 0), BAD, -1, 0, 1);
    }

    private static void greeting() {
        CHECK.about("promise 7, 'of a LANDING'");
        RICH.range("greeting(v, 0, 1, 1, 1, 1)", (x, v) -> x.greeting(v, 0, 1, 1, 1, 1), 0, 2, 1, BAD);
        CHECK.about("promise 7, 'of THING x'");
        RICH.range("greeting(1, v, 1, 1, 1, 1)", (x, v) -> x.greeting(1, v, 1, 1, 1, 1), 0, 2, 1, BAD);
        CHECK.about("promise 7, 'so many (0 .. 20) of a THING are given'");
        RICH.range("greeting(1, 0, v, 1, 1, 1)", (x, v) -> x.greeting(1, 0, v, 1, 1, 1), 0, 20, 1, BAD);
        CHECK.about("promise 7, 'of THING y'");
        RICH.range("greeting(1, 0, 1, v, 1, 1)", (x, v) -> x.greeting(1, 0, 1, v, 1, 1), 0, 2, 1, BAD);
        CHECK.about("promise 7, 'so many (0 .. 40) of a THING come back'");
        RICH.range("greeting(1, 0, 1, 1, v, 1)", (x, v) -> x.greeting(1, 0, 1, 1, v, 1), 0, 40, 1, BAD);
        CHECK.about("promise 7, 'so many days (0 .. 90) later'");
        RICH.range("greeting(1, 0, 1, 1, 1, v)", (x, v) -> x.greeting(1, 0, 1, 1, 1, v), 0, 90, 1, BAD);
    }

    /** The things of a change are unlike; those of a greeting need not be. */
    private static void greetingOfLikeThings() {
        CHECK.about("promise 7, of one thing for the same");
        RICH.taken("greeting(1, v, 1, v, 1, 1)", (x, v) -> x.greeting(1, v, 1, v, 1, 1), 1, 0, 1, 2);
    }

    private static void greetingOfNothing() {
        CHECK.about("promise 7, of what is not there");
        EMPTY.unchanged("greeting(0, 0, 0, 0, 0, 0)", (x, v) -> x.greeting(0, 0, 0, 0, 0, 0), BAD);
        Bounds noThings = new Bounds(CHECK, () -> Rivers.plain(1, 0));
        noThings.unchanged("greeting(0, 0, 0, 0, 0, 0)", (x, v) -> x.greeting(0, 0, 0, 0, 0, 0), BAD);
        Bounds noLandings = new Bounds(CHECK, () -> Rivers.plain(0, 1));
        noLandings.unchanged("greeting(0, 0, 0, 0, 0, 0)", (x, v) -> x.greeting(0, 0, 0, 0, 0, 0), BAD);
    }

    /** One that gives nothing for nothing is as none. */
    private static void greetingAtFirst() {
        CHECK.about("promise 7, '(none at first)'");
        KnifeTrade none = Rivers.plain(2, 1);
        none.start(0, 7);
        long before = none.digest();
        CHECK.dueRun(none, "up; down; up;", 3, 0, 3, 1);
        CHECK.dueLoads(none, 7);
        none.clear(0);
        none.greeting(0, 0, 0, 0, 0, 0);
        none.greeting(1, 0, 0, 0, 0, 0);
        CHECK.due("digest()", none.digest(), before);
        // No thing is needed to arrive where none was told.
        CHECK.dueRun(Rivers.plain(2, 0), "up; down;", 2, 0, 2, 0);
    }

    private static void start() {
        CHECK.about("promise 8, 'of a THING'");
        RICH.beyond("start(v, 1)", (x, v) -> x.start(v, 1), 0, 2, BAD);
        EMPTY.refused("start(v, 1)", (x, v) -> x.start(v, 1), BAD, -1, 0);
        CHECK.about("promise 8, 'START (0 .. 99'");
        RICH.range("start(0, v)", (x, v) -> x.start(0, v), 0, 99, 30, BAD);
        RICH.range("start(2, v)", (x, v) -> x.start(2, v), 0, 99, 60, BAD);
    }

    private static void startWhatItWas() {
        CHECK.about("promise 8, '0 at first' and 'what it was'");
        KnifeTrade x = Rivers.plain(1, 6);
        for (int i = 0; i < 6; i++) {
            CHECK.due("start(" + i + ", 99)", x.start(i, 99), 0);
            CHECK.due("start(" + i + ", 100)", x.start(i, 100), BAD);
            CHECK.due("load(0, " + i + ")", x.load(0, i), 99);
            CHECK.due("start(" + i + ", 0)", x.start(i, 0), 99);
            CHECK.due("load(0, " + i + ")", x.load(0, i), 0);
        }
    }
}
