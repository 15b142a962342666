/** Promises 12 and 13: each bound that is told of a voyage, its days, its steps and what is wrong. */
public final class VoyagesBoundsTest {
    private static final int BAD = KnifeTrade.BAD;
    private static final int NO = KnifeTrade.NO;

    // By what a step is wrong.
    private static final int RIGHT = 0;
    private static final int HUNGRY = 1;
    private static final int FROZEN = 2;
    private static final int UNWELCOME = 3;
    private static final int HEAVY = 4;
    private static final int NOT_DONE = 5;
    private static final int NO_LANDING = 6;

    private static final Check CHECK = new Check();
    private static final Bounds EMPTY = new Bounds(CHECK, KnifeTrade::new);
    private static final Bounds RICH = new Bounds(CHECK, Rivers::rich);
    private static final Bounds PLAIN = new Bounds(CHECK, () -> Rivers.plain(1, 2));
    private static final Bounds FAULTY = new Bounds(CHECK, VoyagesBoundsTest::faulty);

    public static void main(String[] args) {
        run();
        runRefused();
        load();
        loadRefused();
        beginning();
        upDays();
        downDays();
        waits();
        manySteps();
        spoil();
        spoilAheadOfFood();
        food();
        noFood();
        ice();
        iceOnTheWay();
        greetingGiven();
        greetingComesFirst();
        greetingDue();
        greetingInPlaceOfAnother();
        greetingOfItsLanding();
        heavyBehindAnArrival();
        heavyBehindAChange();
        heavyAtNoOtherTime();
        enough();
        mostTimes();
        mostTimesInAll();
        times();
        tally();
        tallyStaysAtThePost();
        back();
        backNoLessThanNothing();
        backLeavesTheTally();
        changeNotThere();
        noLandingThere();
        hungryAheadOfFrozen();
        theWayAheadOfTheLanding();
        unwelcomeAheadOfHeavy();
        heavyAndNotDone();
        stepEndsThere();
        CHECK.end();
    }

    /** Two landings, and at landing 0 a change of a of thing 0 for b of thing 1. */
    private static KnifeTrade trade(int start, int a, int b) {
        KnifeTrade x = Rivers.plain(2, 2);
        x.start(0, start);
        x.change(0, 0, a, 1, b);
        return x;
    }

    private static KnifeTrade faulty() {
        KnifeTrade x = Rivers.plain(2, 2);
        Check.tell(x, 0, "up");
        Check.tell(x, 1, "do 0 0;");
        return x;
    }

    private static void run() {
        CHECK.about("promise 12, 'VOYAGE of a TEXT'");
        PLAIN.range("run(v, 0)", (x, v) -> x.run(v, 0), 0, 1, 0, BAD);
        RICH.beyond("run(v, 0)", (x, v) -> x.run(v, 0), 0, 1, BAD);
        CHECK.about("promise 12, what is 0 to 3");
        PLAIN.range("run(0, v)", (x, v) -> x.run(0, v), 0, 3, 0, BAD);
        RICH.beyond("run(1, v)", (x, v) -> x.run(1, v), 0, 3, BAD);
        CHECK.about("promise 12, of the text that was asked");
        KnifeTrade x = Rivers.plain(2, 0);
        Check.tell(x, 0, "up; wait 3;");
        Check.tell(x, 1, "wait 5; wait 2; down;");
        int[][] due = {{2, RIGHT, 4, 1}, {2, NO_LANDING, 7, 0}};
        for (int text = 0; text < 2; text++) {
            for (int what = 0; what < 4; what++) {
                CHECK.due("run(" + text + ", " + what + ")", x.run(text, what), due[text][what]);
            }
        }
    }

    private static void runRefused() {
        CHECK.about("promise 12, 'NO: a FAULT'");
        FAULTY.refused("run(0, v)", (x, v) -> x.run(0, v), NO, 0, 1, 2, 3);
        FAULTY.refused("run(1, v)", (x, v) -> x.run(1, v), NO, 0, 1, 2, 3);
        KnifeTrade x = faulty();
        x.clear(1);
        CHECK.due("run(1, 0) of the text that has none", x.run(1, 0), 0);
        CHECK.about("promise 12, 'NO: .. no LANDINGS'");
        EMPTY.refused("run(0, v)", (y, v) -> y.run(0, v), NO, 0, 1, 2, 3);
        EMPTY.refused("run(1, v)", (y, v) -> y.run(1, v), NO, 0, 1, 2, 3);
        CHECK.about("promise 12, BAD comes ahead of NO");
        FAULTY.beyond("run(v, 0)", (y, v) -> y.run(v, 0), 0, 1, BAD);
        FAULTY.beyond("run(0, v)", (y, v) -> y.run(0, v), 0, 3, BAD);
        EMPTY.beyond("run(v, 0)", (y, v) -> y.run(v, 0), 0, 1, BAD);
        EMPTY.beyond("run(0, v)", (y, v) -> y.run(0, v), 0, 3, BAD);
    }

    private static void load() {
        CHECK.about("promise 13, of a text");
        PLAIN.range("load(v, 0)", (x, v) -> x.load(v, 0), 0, 1, 0, BAD);
        CHECK.about("promise 13, 'of a THING there'");
        PLAIN.range("load(0, v)", (x, v) -> x.load(0, v), 0, 1, 0, BAD);
        RICH.beyond("load(1, v)", (x, v) -> x.load(1, v), 0, 2, BAD);
        for (int things = 0; things <= 6; things++) {
            KnifeTrade x = Rivers.plain(1, things);
            CHECK.due("load(0, the last one)", x.load(0, things - 1), things == 0 ? BAD : 0);
            CHECK.due("load(0, " + things + ")", x.load(0, things), BAD);
        }
    }

    private static void loadRefused() {
        CHECK.about("promise 13, 'NO: likewise'");
        FAULTY.refused("load(0, v)", (x, v) -> x.load(0, v), NO, 0, 1);
        FAULTY.refused("load(1, v)", (x, v) -> x.load(1, v), NO, 0, 1);
        Bounds noLandings = new Bounds(CHECK, () -> Rivers.plain(0, 2));
        noLandings.refused("load(0, v)", (x, v) -> x.load(0, v), NO, 0, 1);
        CHECK.about("promise 13, BAD comes ahead of NO");
        FAULTY.beyond("load(v, 0)", (x, v) -> x.load(v, 0), 0, 1, BAD);
        FAULTY.beyond("load(0, v)", (x, v) -> x.load(0, v), 0, 1, BAD);
        noLandings.beyond("load(v, 0)", (x, v) -> x.load(v, 0), 0, 1, BAD);
        noLandings.beyond("load(0, v)", (x, v) -> x.load(0, v), 0, 1, BAD);
        EMPTY.unchanged("load(0, 0)", (x, v) -> x.load(0, 0), BAD);
    }

    private static void beginning() {
        CHECK.about("promise 12, 'from LANDING 0, DAY 0, with START, CHANGES not MOVED'");
        KnifeTrade x = Rivers.plain(2, 6);
        int[] start = {0, 1, 2, 50, 98, 99};
        for (int i = 0; i < start.length; i++) {
            x.start(i, start[i]);
        }
        CHECK.dueRun(x, "", 0, RIGHT, 0, 0);
        CHECK.dueLoads(x, start);
        x.change(0, 5, 9, 0, 1);
        x.moves(0, 1, 0, 1);
        // Neither how often it was done nor how it moved is left from the voyage before.
        for (int i = 0; i < 3; i++) {
            CHECK.dueRun(x, "do 0 1; up;", 2, RIGHT, 1, 1);
            CHECK.dueLoads(x, 1, 1, 2, 50, 98, 90);
        }
    }

    private static void upDays() {
        CHECK.about("promise 12, 'UP days times 2 by HANDS (rounded up, 1 at least)'");
        int[][] cases = {{1, 1, 2}, {1, 2, 1}, {1, 3, 1}, {1, 6, 1}, {2, 3, 2}, {2, 4, 1}, {2, 5, 1},
            {3, 5, 2}, {3, 6, 1}, {4, 6, 2}, {9, 1, 18}, {9, 2, 9}, {9, 4, 5}, {9, 5, 4}, {9, 6, 3}};
        for (int[] c : cases) {
            KnifeTrade x = new KnifeTrade();
            x.landing(0, 0);
            x.landing(c[0], 9);
            x.put(1, c[1]);
            CHECK.dueRun(x, "up;", 1, RIGHT, c[2], 1);
        }
    }

    private static void downDays() {
        CHECK.about("promise 12, 'DOWN days pass', however many hands there are");
        for (int down : new int[] {1, 9}) {
            for (int hands : new int[] {1, 6}) {
                KnifeTrade x = new KnifeTrade();
                x.landing(0, 0);
                x.landing(3, down);
                x.put(1, hands);
                CHECK.dueRun(x, "up; down;", 2, RIGHT, 6 / hands + down, 0);
            }
        }
        CHECK.about("promise 12, each landing has days of its own");
        KnifeTrade x = new KnifeTrade();
        for (int i = 0; i < 6; i++) {
            x.landing(i + 1, i + 2);
        }
        CHECK.dueRun(x, "up;up;up;up;up;", 5, RIGHT, 2 + 3 + 4 + 5 + 6, 5);
        CHECK.dueRun(x, "up;up;up;up;up;down;", 6, RIGHT, 20 + 7, 4);
        CHECK.dueRun(x, "up;up;up;up;up;down;down;down;down;down;", 10, RIGHT, 20 + 25, 0);
    }

    private static void waits() {
        CHECK.about("promise 12, 'WAIT n days (1 .. 99)'");
        KnifeTrade x = Rivers.plain(1, 0);
        CHECK.dueRun(x, "wait 1;", 1, RIGHT, 1, 0);
        CHECK.dueRun(x, "wait 01;", 1, RIGHT, 1, 0);
        CHECK.dueRun(x, "wait 99;", 1, RIGHT, 99, 0);
    }

    private static void manySteps() {
        CHECK.about("promise 12, 'how many STEPS went right', of a text that is full");
        KnifeTrade x = Rivers.plain(2, 0);
        CHECK.dueRun(x, "up;down;".repeat(20), 40, RIGHT, 40, 0);
        CHECK.dueRun(x, "down;" + "up;".repeat(51), 0, NO_LANDING, 0, 0);
        CHECK.dueRun(Rivers.plain(6, 0), "up;".repeat(53), 5, NO_LANDING, 5, 5);
    }

    private static void spoil() {
        CHECK.about("promise 12, 'n SPOIL by 100 (cut) are gone'");
        // how many, spoil, how many a day later
        int[][] cases = {{0, 50, 0}, {1, 50, 1}, {2, 50, 1}, {3, 50, 2}, {99, 50, 50}, {99, 0, 99},
            {99, 1, 99}, {49, 2, 49}, {50, 2, 49}, {99, 2, 98}, {33, 3, 33}, {34, 3, 33}, {9, 10, 9},
            {10, 10, 9}, {19, 5, 19}, {20, 5, 19}};
        for (int[] c : cases) {
            KnifeTrade x = new KnifeTrade();
            x.landing(0, 0);
            x.thing(1, 0);
            x.thing(1, c[1]);
            x.start(0, 99);
            x.start(1, c[0]);
            CHECK.dueRun(x, "wait 1;", 1, RIGHT, 1, 0);
            CHECK.dueLoads(x, 99, c[2]);
        }
    }

    private static void spoilAheadOfFood() {
        CHECK.about("promise 12, food spoils before it is eaten");
        KnifeTrade x = new KnifeTrade();
        x.landing(0, 0);
        x.thing(1, 50);
        x.put(2, 0);
        x.start(0, 3);
        // 3 to 2, all eaten; of 2 but 1 is left, too few.
        CHECK.dueRun(x, "wait 1;", 1, RIGHT, 1, 0);
        CHECK.dueLoads(x, 0);
        x.start(0, 2);
        CHECK.dueRun(x, "wait 1;", 0, HUNGRY, 1, 0);
        CHECK.dueLoads(x, 1);
    }

    private static void food() {
        CHECK.about("promise 12, 'HANDS of FOOD are eaten (fewer there: HUNGRY, none is eaten)'");
        for (int hands = 1; hands <= 6; hands++) {
            KnifeTrade x = Rivers.plain(2, 2);
            x.put(1, hands);
            x.put(2, 1);
            x.start(0, 9);
            x.start(1, hands);
            CHECK.dueRun(x, "wait 1;", 1, RIGHT, 1, 0);
            CHECK.dueLoads(x, 9, 0);
            CHECK.dueRun(x, "wait 1; wait 1;", 1, HUNGRY, 2, 0);
            CHECK.dueLoads(x, 9, 0);
            x.start(1, hands - 1);
            CHECK.dueRun(x, "wait 1;", 0, HUNGRY, 1, 0);
            CHECK.dueLoads(x, 9, hands - 1);
            x.start(1, 2 * hands - 1);
            CHECK.dueRun(x, "wait 3;", 0, HUNGRY, 2, 0);
            CHECK.dueLoads(x, 9, hands - 1);
        }
    }

    private static void noFood() {
        CHECK.about("promise 12, 'NONE: nothing is eaten'");
        KnifeTrade x = Rivers.plain(1, 1);
        CHECK.dueRun(x, "wait 99;", 1, RIGHT, 99, 0);
        x.put(2, 0);
        CHECK.dueRun(x, "wait 99;", 0, HUNGRY, 1, 0);
        x.put(2, -1);
        x.start(0, 9);
        CHECK.dueRun(x, "wait 99;", 1, RIGHT, 99, 0);
        CHECK.dueLoads(x, 9);
    }

    private static void ice() {
        CHECK.about("promise 12, 'DAY above ICE: FROZEN'");
        KnifeTrade x = Rivers.plain(1, 0);
        x.put(3, 1);
        CHECK.dueRun(x, "wait 1;", 1, RIGHT, 1, 0);
        CHECK.dueRun(x, "wait 1; wait 1;", 1, FROZEN, 2, 0);
        CHECK.dueRun(x, "wait 9;", 0, FROZEN, 2, 0);
        x.put(3, 99);
        CHECK.dueRun(x, "wait 99;", 1, RIGHT, 99, 0);
        x.put(3, 98);
        CHECK.dueRun(x, "wait 99;", 0, FROZEN, 99, 0);
        x.put(3, 400);
        CHECK.dueRun(x, "wait 99;".repeat(4) + "wait 4;", 5, RIGHT, 400, 0);
        CHECK.dueRun(x, "wait 99;".repeat(4) + "wait 4; wait 1;", 5, FROZEN, 401, 0);
    }

    private static void iceOnTheWay() {
        CHECK.about("promise 12, frozen on the way: it does not arrive");
        KnifeTrade x = new KnifeTrade();
        x.landing(0, 0);
        x.landing(3, 2);
        x.put(3, 3);
        CHECK.dueRun(x, "up;", 1, RIGHT, 3, 1);
        CHECK.dueRun(x, "up; down;", 1, FROZEN, 4, 1);
        x.put(3, 2);
        CHECK.dueRun(x, "up;", 0, FROZEN, 3, 0);
        x.put(3, 5);
        CHECK.dueRun(x, "up; down;", 2, RIGHT, 5, 0);
    }

    private static void greetingGiven() {
        CHECK.about("promise 12, 'then the GREETING is given (fewer: UNWELCOME)'");
        for (int n : new int[] {1, 2, 20}) {
            KnifeTrade x = Rivers.plain(2, 2);
            x.greeting(1, 1, n, 0, 0, 0);
            x.start(1, n);
            CHECK.dueRun(x, "up;", 1, RIGHT, 1, 1);
            CHECK.dueLoads(x, 0, 0);
            x.start(1, n - 1);
            CHECK.dueRun(x, "up;", 0, UNWELCOME, 1, 1);
            CHECK.dueLoads(x, 0, n - 1);
        }
        CHECK.about("promise 12, where none is given something can come back");
        KnifeTrade x = Rivers.plain(2, 2);
        x.greeting(1, 0, 0, 1, 40, 0);
        CHECK.dueRun(x, "up;", 1, RIGHT, 1, 1);
        CHECK.dueLoads(x, 0, 0);
        CHECK.dueRun(x, "up; down; up;", 3, RIGHT, 3, 1);
        CHECK.dueLoads(x, 0, 40);
        CHECK.due("start(0, 0)", x.start(0, 0), 0);
    }

    private static void greetingComesFirst() {
        CHECK.about("promise 12, what is given back comes, then the greeting is given");
        KnifeTrade x = Rivers.plain(2, 1);
        x.start(0, 5);
        x.greeting(1, 0, 5, 0, 5, 0);
        CHECK.dueRun(x, "up; down; up;", 3, RIGHT, 3, 1);
        CHECK.dueLoads(x, 0);
        // Too few came: what came stays.
        x.greeting(1, 0, 5, 0, 4, 0);
        CHECK.dueRun(x, "up; down; up;", 2, UNWELCOME, 3, 1);
        CHECK.dueLoads(x, 4);
        CHECK.about("promise 12, heavy is looked at behind both");
        x.greeting(1, 0, 5, 0, 10, 0);
        x.start(0, 10);
        x.put(0, 10);
        // 10 to 5, then 15, then 10.
        CHECK.dueRun(x, "up; down; up;", 3, RIGHT, 3, 1);
        CHECK.dueLoads(x, 10);
    }

    private static void greetingDue() {
        CHECK.about("promise 12, 'DAY no less than when it was given and those days'");
        // days later, days from the one arrival to the other, what comes
        int[][] cases = {{0, 2, 7}, {1, 2, 7}, {2, 2, 7}, {3, 2, 0}, {2, 3, 7}, {3, 3, 7}, {4, 3, 0},
            {89, 90, 7}, {90, 90, 7}, {90, 89, 0}, {90, 91, 7}};
        for (int[] c : cases) {
            KnifeTrade x = Rivers.plain(2, 2);
            x.greeting(1, 0, 0, 1, 7, c[0]);
            String between = c[1] > 2 ? "wait " + (c[1] - 2) + ";" : "";
            Check.tell(x, 0, "up;" + between + "down; up;");
            CHECK.due("run(0, 2)", x.run(0, 2), 1 + c[1]);
            CHECK.due("load(0, 1) of " + c[0] + " days later, after " + c[1], x.load(0, 1), c[2]);
        }
    }

    private static void greetingInPlaceOfAnother() {
        CHECK.about("promise 12, 'owed from that DAY on (in place of what was owed there and not due)'");
        KnifeTrade x = Rivers.plain(2, 2);
        x.greeting(1, 0, 0, 1, 7, 3);
        // On days 1, 3, 5, 7: on each one the one before is not due.
        CHECK.dueRun(x, "up; down; up; down; up; down; up;", 7, RIGHT, 7, 1);
        CHECK.dueLoads(x, 0, 0);
        // On days 1, 3, 6: that of day 3 alone, once.
        CHECK.dueRun(x, "up; down; up; wait 1; down; up;", 6, RIGHT, 6, 1);
        CHECK.dueLoads(x, 0, 7);
        // On days 1, 4, 6: that of day 1; that of day 4 is not due.
        CHECK.dueRun(x, "up; wait 1; down; up; down; up;", 6, RIGHT, 6, 1);
        CHECK.dueLoads(x, 0, 7);
        // On days 1, 4, 7: both.
        CHECK.dueRun(x, "up; wait 1; down; up; wait 1; down; up;", 7, RIGHT, 7, 1);
        CHECK.dueLoads(x, 0, 14);
    }

    private static void greetingOfItsLanding() {
        CHECK.about("promise 12, 'what is given back there'");
        KnifeTrade x = Rivers.plain(3, 3);
        x.greeting(1, 0, 0, 1, 7, 0);
        x.greeting(2, 0, 0, 2, 9, 0);
        CHECK.dueRun(x, "up; up;", 2, RIGHT, 2, 2);
        CHECK.dueLoads(x, 0, 0, 0);
        CHECK.dueRun(x, "up; up; down;", 3, RIGHT, 3, 1);
        CHECK.dueLoads(x, 0, 7, 0);
        CHECK.dueRun(x, "up; up; down; up;", 4, RIGHT, 4, 2);
        CHECK.dueLoads(x, 0, 7, 9);
        // Not at a landing where one waits, nor where one began.
        CHECK.dueRun(x, "up; wait 9;", 2, RIGHT, 10, 1);
        CHECK.dueLoads(x, 0, 0, 0);
        x.greeting(0, 0, 0, 1, 5, 0);
        CHECK.dueRun(x, "up; down;", 2, RIGHT, 2, 0);
        CHECK.dueLoads(x, 0, 0, 0);
    }

    private static void heavyBehindAnArrival() {
        CHECK.about("promise 12, 'HEAVY: behind an ARRIVAL .. all WEIGHT is more than ROOM'");
        for (int room : new int[] {1, 20, 100, 500}) {
            KnifeTrade x = new KnifeTrade();
            x.landing(0, 0);
            x.landing(1, 1);
            x.thing(20, 0);
            x.thing(1, 0);
            x.start(0, room / 20);
            x.start(1, room % 20);
            x.put(0, room);
            CHECK.dueRun(x, "up; down;", 2, RIGHT, 2, 0);
            x.start(1, room % 20 + 1);
            CHECK.dueRun(x, "up; down;", 0, HEAVY, 1, 1);
            // The greeting lightens it before that is looked at.
            x.greeting(1, 1, 1, 0, 0, 0);
            CHECK.dueRun(x, "up; down;", 2, RIGHT, 2, 0);
        }
    }

    private static void heavyBehindAChange() {
        CHECK.about("promise 12, 'HEAVY: .. each time a CHANGE was done'");
        KnifeTrade x = trade(10, 1, 3);
        // 10, 12, 14, 16
        x.put(0, 14);
        CHECK.dueRun(x, "do 0 2;", 1, RIGHT, 0, 0);
        CHECK.dueRun(x, "do 0 3;", 0, HEAVY, 0, 0);
        CHECK.dueLoads(x, 7, 9);
        x.put(0, 13);
        CHECK.dueRun(x, "do 0 1;", 1, RIGHT, 0, 0);
        CHECK.dueRun(x, "do 0 2;", 0, HEAVY, 0, 0);
        CHECK.dueLoads(x, 8, 6);
        CHECK.about("promise 12, heavy the first time: there is no second one");
        x.put(0, 11);
        CHECK.dueRun(x, "do 0 9;", 0, HEAVY, 0, 0);
        CHECK.dueLoads(x, 9, 3);
        KnifeTrade y = trade(9, 3, 1);
        // 9, 7, 5, 3: heavy till it was done twice.
        y.put(0, 5);
        CHECK.dueRun(y, "do 0 3;", 0, HEAVY, 0, 0);
        CHECK.dueLoads(y, 6, 1);
        y.put(0, 7);
        CHECK.dueRun(y, "do 0 3;", 1, RIGHT, 0, 0);
    }

    private static void heavyAtNoOtherTime() {
        CHECK.about("promise 12, heavy at the start and on waits is not looked at");
        KnifeTrade x = Rivers.plain(1, 1);
        x.start(0, 99);
        x.put(0, 1);
        CHECK.dueRun(x, "", 0, RIGHT, 0, 0);
        CHECK.dueRun(x, "wait 99;", 1, RIGHT, 99, 0);
    }

    private static void enough() {
        CHECK.about("promise 12, 'A and m of x are given' .. 'for which there is not enough'");
        for (int a : new int[] {1, 3, 20}) {
            KnifeTrade x = trade(a, a, 20);
            CHECK.dueRun(x, "do 0 1;", 1, RIGHT, 0, 0);
            CHECK.dueLoads(x, 0, 20);
            x.start(0, a - 1);
            CHECK.dueRun(x, "do 0 1;", 0, NOT_DONE, 0, 0);
            CHECK.dueLoads(x, a - 1, 0);
            // Moved by one behind the first time.
            x.moves(0, 1, 0, 99);
            x.start(0, a + a + 1);
            CHECK.dueRun(x, "do 0 2;", 1, RIGHT, 0, 0);
            CHECK.dueLoads(x, 0, 40);
            x.start(0, a + a);
            CHECK.dueRun(x, "do 0 2;", 0, NOT_DONE, 0, 0);
            CHECK.dueLoads(x, a, 20);
        }
    }

    private static void mostTimes() {
        CHECK.about("promise 12, 'done MOST times'");
        for (int most : new int[] {1, 2, 98}) {
            KnifeTrade x = trade(99, 1, 1);
            x.moves(0, 0, 0, most);
            CHECK.dueRun(x, "do 0 " + most + ";", 1, RIGHT, 0, 0);
            CHECK.dueLoads(x, 99 - most, most);
            CHECK.dueRun(x, "do 0 " + most + "; do 0 1;", 1, NOT_DONE, 0, 0);
            CHECK.dueRun(x, "do 0 " + (most + 1) + ";", 0, NOT_DONE, 0, 0);
            CHECK.dueLoads(x, 99 - most, most);
        }
        KnifeTrade x = trade(99, 1, 1);
        x.moves(0, 0, 0, 0);
        CHECK.dueRun(x, "do 0 1;", 0, NOT_DONE, 0, 0);
        CHECK.dueLoads(x, 99, 0);
        CHECK.about("promise 12, MOST 99 while there is enough for more");
        x.moves(0, 0, 0, 99);
        x.change(0, 1, 1, 0, 1);
        CHECK.dueRun(x, "do 0 99; do 1 1; do 0 1;", 2, NOT_DONE, 0, 0);
        CHECK.dueLoads(x, 1, 98);
    }

    private static void mostTimesInAll() {
        CHECK.about("promise 12, 'MOST times in all'");
        KnifeTrade x = trade(99, 1, 1);
        x.moves(0, 1, 1, 3);
        x.change(0, 0, 1, 1, 1);
        // Days, ways and other changes between do not matter.
        CHECK.dueRun(x, "do 0 1; wait 9; do 0 1; up; down; do 1 1; do 0 1;", 7, RIGHT, 11, 0);
        CHECK.dueRun(x, "do 0 2; wait 99; do 0 1; do 1 9; do 0 1;", 4, NOT_DONE, 99, 0);
    }

    private static void times() {
        CHECK.about("promise 12, 'DO a CHANGE n times (1 .. 99)'");
        KnifeTrade x = trade(99, 1, 1);
        CHECK.dueRun(x, "do 0 1;", 1, RIGHT, 0, 0);
        CHECK.dueLoads(x, 98, 1);
        CHECK.dueRun(x, "do 0 99;", 1, RIGHT, 0, 0);
        CHECK.dueLoads(x, 0, 99);
    }

    private static void tally() {
        CHECK.about("promise 12, 'if it is EACH, it is 0 and m is 1 more'");
        for (int each = 1; each <= 9; each++) {
            KnifeTrade x = trade(99, 2, 1);
            x.moves(0, each, 0, 99);
            CHECK.dueRun(x, "do 0 " + each + ";", 1, RIGHT, 0, 0);
            CHECK.dueLoads(x, 99 - 2 * each, each);
            CHECK.dueRun(x, "do 0 " + (each + 1) + ";", 1, RIGHT, 0, 0);
            CHECK.dueLoads(x, 99 - 2 * each - 3, each + 1);
            CHECK.dueRun(x, "do 0 " + 2 * each + ";", 1, RIGHT, 0, 0);
            CHECK.dueLoads(x, 99 - 5 * each, 2 * each);
            CHECK.dueRun(x, "do 0 " + 2 * each + "; do 0 1;", 2, RIGHT, 0, 0);
            CHECK.dueLoads(x, 99 - 5 * each - 4, 2 * each + 1);
        }
        CHECK.about("promise 12, 'EACH 0: neither'");
        KnifeTrade x = trade(99, 1, 1);
        x.moves(0, 0, 1, 99);
        CHECK.dueRun(x, "do 0 99;", 1, RIGHT, 0, 0);
        CHECK.dueLoads(x, 0, 99);
    }

    private static void tallyStaysAtThePost() {
        CHECK.about("promise 12, 'at the POST neither'");
        KnifeTrade x = Rivers.plain(2, 2);
        x.start(0, 99);
        x.change(0, 0, 2, 1, 1);
        x.change(1, 0, 2, 1, 1);
        x.moves(0, 1, 0, 99);
        x.moves(1, 1, 0, 99);
        // 2, 3, 4 where it moves, 2, 2, 2 where it does not.
        int[][] cases = {{-1, 9, 9}, {0, 6, 9}, {1, 9, 6}};
        for (int[] c : cases) {
            x.put(5, c[0]);
            CHECK.dueRun(x, "do 0 3;", 1, RIGHT, 0, 0);
            CHECK.dueLoads(x, 99 - c[1], 3);
            CHECK.dueRun(x, "do 0 3; up; do 1 3;", 3, RIGHT, 1, 1);
            CHECK.dueLoads(x, 99 - c[1] - c[2], 6);
        }
    }

    private static void back() {
        CHECK.about("promise 12, 'On each day that is a multiple of BACK m is 1 less'");
        for (int back : new int[] {1, 2, 7, 29, 30}) {
            KnifeTrade x = trade(99, 5, 1);
            x.moves(0, 1, back, 99);
            String almost = back == 1 ? "" : "wait " + (back - 1) + ";";
            // 5, 6 and 7; then 8 till the day, 7 from it on, and 6 from the next one on.
            CHECK.dueRun(x, "do 0 3;" + almost + "do 0 1;", back == 1 ? 2 : 3, RIGHT, back - 1, 0);
            CHECK.dueLoads(x, 99 - 18 - 8, 4);
            CHECK.dueRun(x, "do 0 3;" + almost + "wait 1; do 0 1;", back == 1 ? 3 : 4, RIGHT, back, 0);
            CHECK.dueLoads(x, 99 - 18 - 7, 4);
            CHECK.dueRun(x, "do 0 3; wait " + back + ";" + almost + "do 0 1;", back == 1 ? 3 : 4, RIGHT,
                    2 * back - 1, 0);
            CHECK.dueLoads(x, 99 - 18 - 7, 4);
            CHECK.dueRun(x, "do 0 3; wait " + 2 * back + "; do 0 1;", 3, RIGHT, 2 * back, 0);
            CHECK.dueLoads(x, 99 - 18 - 6, 4);
        }
        CHECK.about("promise 12, days of the voyage, not days since it moved");
        KnifeTrade x = trade(99, 5, 1);
        x.moves(0, 1, 4, 99);
        CHECK.dueRun(x, "wait 3; do 0 1; wait 1; do 0 1;", 4, RIGHT, 4, 0);
        CHECK.dueLoads(x, 99 - 5 - 5, 2);
        CHECK.dueRun(x, "wait 4; do 0 1; wait 3; do 0 1;", 4, RIGHT, 7, 0);
        CHECK.dueLoads(x, 99 - 5 - 6, 2);
        CHECK.about("promise 12, '(BACK 0: never)'");
        x.moves(0, 1, 0, 99);
        CHECK.dueRun(x, "do 0 1; wait 99; do 0 1;", 3, RIGHT, 99, 0);
        CHECK.dueLoads(x, 99 - 5 - 6, 2);
    }

    private static void backNoLessThanNothing() {
        CHECK.about("promise 12, '0 at least'");
        KnifeTrade x = trade(99, 5, 1);
        x.moves(0, 1, 1, 99);
        CHECK.dueRun(x, "wait 99; do 0 3;", 2, RIGHT, 99, 0);
        CHECK.dueLoads(x, 99 - 18, 3);
        CHECK.dueRun(x, "do 0 1; wait 1; do 0 1; wait 1; do 0 1;", 5, RIGHT, 2, 0);
        CHECK.dueLoads(x, 99 - 15, 3);
        CHECK.dueRun(x, "do 0 2; wait 3; do 0 3;", 3, RIGHT, 3, 0);
        CHECK.dueLoads(x, 99 - 11 - 18, 5);
    }

    private static void backLeavesTheTally() {
        CHECK.about("promise 12, m comes back, the TALLY does not");
        KnifeTrade x = trade(99, 5, 1);
        x.moves(0, 2, 1, 99);
        CHECK.dueRun(x, "do 0 1; wait 9; do 0 1; do 0 1;", 4, RIGHT, 9, 0);
        CHECK.dueLoads(x, 99 - 5 - 5 - 6, 3);
        CHECK.dueRun(x, "do 0 3; wait 9; do 0 1; do 0 1;", 4, RIGHT, 9, 0);
        CHECK.dueLoads(x, 99 - 16 - 5 - 6, 5);
    }

    private static void changeNotThere() {
        CHECK.about("promise 12, 'a CHANGE that is not there, not at that LANDING'");
        KnifeTrade x = trade(99, 1, 1);
        x.change(1, 0, 1, 1, 1);
        CHECK.dueRun(x, "do 0 1; do 1 1;", 1, NOT_DONE, 0, 0);
        CHECK.dueRun(x, "do 2 1;", 0, NOT_DONE, 0, 0);
        CHECK.dueRun(x, "do 7 1;", 0, NOT_DONE, 0, 0);
        CHECK.dueRun(x, "do 8 1;", 0, NOT_DONE, 0, 0);
        CHECK.dueRun(x, "do 99 99;", 0, NOT_DONE, 0, 0);
        CHECK.dueRun(x, "up; do 1 1; do 0 1;", 2, NOT_DONE, 1, 1);
        CHECK.dueRun(Rivers.plain(1, 0), "do 0 1;", 0, NOT_DONE, 0, 0);
        KnifeTrade y = Rivers.full();
        y.start(1, 3);
        CHECK.dueRun(y, "up; do 7 1; do 8 1;", 2, NOT_DONE, 1, 1);
    }

    private static void noLandingThere() {
        CHECK.about("promise 12, 'no LANDING there': no day passes");
        for (int landings = 1; landings <= 6; landings++) {
            KnifeTrade x = Rivers.plain(landings, 1);
            int last = landings - 1;
            CHECK.dueRun(x, "up;".repeat(last), last, RIGHT, last, last);
            CHECK.dueRun(x, "up;".repeat(last) + "up; wait 1;", last, NO_LANDING, last, last);
            CHECK.dueRun(x, "down; wait 1;", 0, NO_LANDING, 0, 0);
            CHECK.dueRun(x, "up;".repeat(last) + "down;".repeat(last) + "down;", 2 * last, NO_LANDING,
                    2 * last, 0);
        }
        CHECK.about("promise 12, no landing there: nobody is hungry or frozen on that way");
        KnifeTrade x = Rivers.plain(1, 1);
        x.put(2, 0);
        x.put(3, 1);
        CHECK.dueRun(x, "up;", 0, NO_LANDING, 0, 0);
        CHECK.dueRun(x, "down;", 0, NO_LANDING, 0, 0);
        x.start(0, 2);
        CHECK.dueRun(x, "wait 1; up;", 1, NO_LANDING, 1, 0);
        CHECK.dueRun(x, "wait 1; wait 1;", 1, HUNGRY, 2, 0);
    }

    private static void hungryAheadOfFrozen() {
        CHECK.about("promise 12, 1 HUNGRY comes ahead of 2 FROZEN");
        KnifeTrade x = Rivers.plain(1, 1);
        x.put(2, 0);
        x.put(3, 3);
        int[][] cases = {{8, FROZEN, 4, 0}, {7, HUNGRY, 4, 1}, {6, HUNGRY, 4, 0}, {5, HUNGRY, 3, 1}};
        for (int[] c : cases) {
            x.start(0, c[0]);
            CHECK.dueRun(x, "wait 9;", 0, c[1], c[2], 0);
            CHECK.dueLoads(x, c[3]);
        }
    }

    private static void theWayAheadOfTheLanding() {
        CHECK.about("promise 12, 1 HUNGRY and 2 FROZEN come ahead of 3 UNWELCOME and 4 HEAVY");
        KnifeTrade x = Rivers.plain(2, 2);
        x.start(0, 1);
        x.greeting(1, 1, 1, 0, 0, 0);
        x.put(0, 1);
        x.start(1, 2);
        CHECK.dueRun(x, "up;", 0, HEAVY, 1, 1);
        x.greeting(1, 1, 20, 0, 0, 0);
        CHECK.dueRun(x, "up;", 0, UNWELCOME, 1, 1);
        x.put(3, 1);
        CHECK.dueRun(x, "wait 1; up;", 1, FROZEN, 2, 0);
        x.put(2, 0);
        CHECK.dueRun(x, "up;", 0, HUNGRY, 1, 0);
        CHECK.dueLoads(x, 1, 2);
    }

    private static void unwelcomeAheadOfHeavy() {
        CHECK.about("promise 12, 3 UNWELCOME comes ahead of 4 HEAVY");
        KnifeTrade x = Rivers.plain(2, 2);
        x.start(0, 9);
        x.put(0, 8);
        CHECK.dueRun(x, "up;", 0, HEAVY, 1, 1);
        x.greeting(1, 1, 1, 0, 0, 0);
        CHECK.dueRun(x, "up;", 0, UNWELCOME, 1, 1);
        CHECK.dueLoads(x, 9, 0);
    }

    private static void heavyAndNotDone() {
        CHECK.about("promise 12, of 4 HEAVY and 5 the one that comes");
        KnifeTrade x = trade(3, 3, 5);
        x.put(0, 4);
        // Heavy behind the first time, when there is not enough for the second one.
        CHECK.dueRun(x, "do 0 2;", 0, HEAVY, 0, 0);
        x.put(0, 5);
        CHECK.dueRun(x, "do 0 2;", 0, NOT_DONE, 0, 0);
        // Too heavy ahead of it, but it can not be done.
        x.put(0, 1);
        x.start(0, 2);
        CHECK.dueRun(x, "do 0 1;", 0, NOT_DONE, 0, 0);
        x.moves(0, 0, 0, 1);
        x.start(0, 6);
        x.put(0, 7);
        CHECK.dueRun(x, "do 0 2;", 0, HEAVY, 0, 0);
        x.put(0, 8);
        CHECK.dueRun(x, "do 0 2;", 0, NOT_DONE, 0, 0);
    }

    private static void stepEndsThere() {
        CHECK.about("promise 12, 'It ends there: what was done by that STEP till then stays done'");
        KnifeTrade x = trade(10, 3, 2);
        CHECK.dueRun(x, "do 0 1; do 0 9; wait 5; up;", 1, NOT_DONE, 0, 0);
        CHECK.dueLoads(x, 1, 6);
        x.put(3, 4);
        CHECK.dueRun(x, "wait 2; wait 9; do 0 1;", 1, FROZEN, 5, 0);
        CHECK.dueLoads(x, 10, 0);
        x.put(2, 0);
        CHECK.dueRun(x, "wait 9; do 0 1;", 0, FROZEN, 5, 0);
        CHECK.dueLoads(x, 0, 0);
        x.put(1, 3);
        CHECK.dueRun(x, "wait 9; do 0 1;", 0, HUNGRY, 4, 0);
        CHECK.dueLoads(x, 1, 0);
    }
}
