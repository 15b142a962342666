/** Promises 17 to 21: each bound that is told of what is best. */
public final class BestBoundsTest {
    private static final int NONE = KnifeTrade.NONE;
    private static final int BAD = KnifeTrade.BAD;
    private static final int NO = KnifeTrade.NO;
    private static final int BAD_NUMBER = -10;
    private static final int NO_BEST = -20;
    private static final int NOT_SO_MANY = -5;
    private static final int BAD_WORTH = -1000;
    private static final int NO_WORTH = -2000;

    private static final Check CHECK = new Check();
    private static final Bounds EMPTY = new Bounds(CHECK, KnifeTrade::new);
    private static final Bounds RICH = new Bounds(CHECK, Rivers::rich);
    private static final Bounds PLAIN = new Bounds(CHECK, () -> Rivers.plain(1, 2));
    private static final Bounds NO_LANDINGS = new Bounds(CHECK, () -> Rivers.plain(0, 2));
    private static final Bounds HOMELESS = new Bounds(CHECK, BestBoundsTest::homeless);

    public static void main(String[] args) {
        best();
        bestWhat();
        bestRefused();
        homeThere();
        noneAtAll();
        upToSoManyActs();
        oneActOfEachKind();
        endingAtLandingZero();
        asManyTimesAsThereIsEnough();
        asManyTimesAsMost();
        heavyNone();
        noneWrong();
        fewestActs();
        firstRow();
        worth();
        worthRefused();
        worthOfOneMore();
        othersRefused();
        lackOfWhatThereIs();
        lackOfLikeOnes();
        crewOfLikeOnes();
        whereOfLikeOnes();
        CHECK.end();
    }

    private static KnifeTrade homeless() {
        KnifeTrade x = Rivers.plain(2, 2);
        x.start(0, 5);
        x.put(4, 2);
        return x;
    }

    /** Landing 0 and 1, home is thing 1, and changes: at a landing, of thing x a for b of thing y. */
    private static KnifeTrade river(int things, int[]... changes) {
        KnifeTrade x = Rivers.plain(2, things);
        x.put(4, 1);
        for (int[] c : changes) {
            x.change(c[0], c[1], c[2], c[3], c[4]);
        }
        return x;
    }

    private static void best() {
        CHECK.about("promise 17, 'of up to n ACTS (n 0 .. 4)'");
        PLAIN.range("best(v, NONE)", (x, v) -> x.best(v, NONE), 0, 4, 0, BAD_NUMBER);
        RICH.beyond("best(v, 0)", (x, v) -> x.best(v, 0), 0, 4, BAD_NUMBER);
    }

    private static void bestWhat() {
        CHECK.about("promise 17, what is NONE, 0 .. 3 or 4");
        RICH.beyond("best(2, v)", (x, v) -> x.best(2, v), NONE, 4, BAD_NUMBER);
        PLAIN.beyond("best(0, v)", (x, v) -> x.best(0, v), NONE, 4, BAD_NUMBER);
        PLAIN.refused("best(4, v)", (x, v) -> x.best(4, v), NOT_SO_MANY, 0, 1, 2, 3);
        PLAIN.refused("best(4, v)", (x, v) -> x.best(4, v), 0, NONE, 4);
    }

    private static void bestRefused() {
        CHECK.about("promise 17, 'NO: -20: no LANDINGS'");
        NO_LANDINGS.refused("best(4, v)", (x, v) -> x.best(4, v), NO_BEST, NONE, 0, 1, 2, 3, 4);
        NO_LANDINGS.refused("best(v, NONE)", (x, v) -> x.best(v, NONE), NO_BEST, 0, 1, 2, 3, 4);
        CHECK.about("promise 17, 'NO: -20: .. HOME is not there'");
        HOMELESS.refused("best(4, v)", (x, v) -> x.best(4, v), NO_BEST, NONE, 0, 1, 2, 3, 4);
        HOMELESS.refused("best(v, NONE)", (x, v) -> x.best(v, NONE), NO_BEST, 0, 1, 2, 3, 4);
        CHECK.about("promise 17, BAD comes ahead of NO");
        for (Bounds refusing : new Bounds[] {EMPTY, NO_LANDINGS, HOMELESS}) {
            refusing.beyond("best(v, 4)", (x, v) -> x.best(v, 4), 0, 4, BAD_NUMBER);
            refusing.beyond("best(4, v)", (x, v) -> x.best(4, v), NONE, 4, BAD_NUMBER);
        }
    }

    private static void homeThere() {
        CHECK.about("promises 17 to 21, HOME is there");
        for (int things = 1; things <= 6; things++) {
            KnifeTrade x = Rivers.plain(1, things);
            x.start(things - 1, 7);
            x.put(4, things - 1);
            CHECK.due("best(4, NONE)", x.best(4, NONE), 7);
            CHECK.due("worth(home, 4)", x.worth(things - 1, 4), 1);
            CHECK.due("lack(4)", x.lack(4), things - 1);
            CHECK.due("crew(4)", x.crew(4), 1);
            CHECK.due("where(4)", x.where(4), 0);
            if (things < 6) {
                x.put(4, things);
                CHECK.due("best(4, NONE)", x.best(4, NONE), NO_BEST);
                CHECK.due("worth(0, 4)", x.worth(0, 4), NO_WORTH);
                CHECK.due("lack(4)", x.lack(4), NO);
                CHECK.due("crew(4)", x.crew(4), NO);
                CHECK.due("where(4)", x.where(4), NO);
            }
        }
    }

    private static void noneAtAll() {
        CHECK.about("promise 17, '(None at all is one.)'");
        KnifeTrade x = river(2, new int[] {0, 1, 1, 0, 20});
        for (int start : new int[] {0, 1, 99}) {
            x.start(1, start);
            for (int n = 0; n <= 4; n++) {
                CHECK.dueBest(x, n, start);
            }
        }
    }

    private static void upToSoManyActs() {
        CHECK.about("promise 17, 'of up to n ACTS'");
        // One act brings 2, three bring 9, four bring 11.
        KnifeTrade x = river(3, new int[] {0, 2, 1, 1, 2}, new int[] {1, 0, 1, 1, 9});
        x.start(0, 1);
        x.start(2, 1);
        CHECK.dueBest(x, 0, 0);
        CHECK.dueBest(x, 1, 2, 3);
        CHECK.dueBest(x, 2, 2, 3);
        CHECK.dueBest(x, 3, 9, 0, 4, 1);
        CHECK.dueBest(x, 4, 11, 0, 4, 1, 3);
        // Two acts: the one behind the other.
        x = river(3, new int[] {0, 0, 1, 2, 1}, new int[] {0, 2, 1, 1, 1});
        x.start(0, 5);
        CHECK.dueBest(x, 1, 0);
        CHECK.dueBest(x, 2, 5, 3, 4);
        // Five acts are too many.
        x = river(5, new int[] {0, 0, 1, 2, 1}, new int[] {0, 2, 1, 3, 1}, new int[] {0, 3, 1, 4, 1},
                new int[] {0, 4, 1, 1, 1});
        x.start(0, 5);
        CHECK.dueBest(x, 3, 0);
        CHECK.dueBest(x, 4, 5, 3, 4, 5, 6);
        x.thing(1, 0);
        x.change(0, 4, 1, 5, 1);
        x.put(4, 5);
        CHECK.dueBest(x, 4, 5, 3, 4, 5, 7);
        x.change(1, 5, 1, 1, 3);
        x.put(4, 1);
        CHECK.dueBest(x, 4, 5, 3, 4, 5, 6);
    }

    private static void oneActOfEachKind() {
        CHECK.about("promise 17, '0 UP, 1 DOWN, 2 WAIT a day, 3 and k: CHANGE k'");
        // m is 1 behind the first time, and 0 again when a day has passed.
        KnifeTrade x = river(2, new int[] {0, 0, 5, 1, 1});
        x.start(0, 10);
        x.moves(0, 1, 1, 99);
        CHECK.dueBest(x, 3, 2, 3, 2, 3);
        // On the second day alone: done ahead of it and behind it.
        x.moves(0, 1, 2, 99);
        CHECK.dueBest(x, 3, 1, 3);
        CHECK.dueBest(x, 4, 2, 2, 3, 2, 3);
        x.moves(0, 1, 3, 99);
        CHECK.dueBest(x, 4, 1, 3);
        // The last change there can be is act 10.
        x = river(2);
        x.start(0, 20);
        for (int i = 0; i < 8; i++) {
            x.change(0, 0, 20, 1, i + 1);
        }
        CHECK.dueBest(x, 1, 8, 10);
        x.moves(7, 0, 0, 0);
        CHECK.dueBest(x, 1, 7, 9);
    }

    private static void endingAtLandingZero() {
        CHECK.about("promise 17, 'ending at LANDING 0'");
        KnifeTrade x = river(2, new int[] {1, 0, 1, 1, 9});
        x.start(0, 1);
        x.start(1, 2);
        CHECK.dueBest(x, 2, 2);
        CHECK.dueBest(x, 3, 11, 0, 3, 1);
        // Two landings up and down are four acts without one to change.
        x = Rivers.plain(3, 2);
        x.put(4, 1);
        x.start(0, 1);
        x.change(2, 0, 1, 1, 9);
        CHECK.dueBest(x, 4, 0);
        // What is given back at landing 2 comes when one arrives there the second time.
        x.greeting(1, 0, 0, 1, 4, 0);
        CHECK.dueBest(x, 3, 0);
        CHECK.dueBest(x, 4, 4, 0, 0, 1, 1);
    }

    private static void asManyTimesAsThereIsEnough() {
        CHECK.about("promise 17, 'CHANGE k, as many times as goes right .. once at least'");
        KnifeTrade x = river(2, new int[] {0, 0, 3, 1, 1});
        int[][] cases = {{0, 0}, {2, 0}, {3, 1}, {5, 1}, {6, 2}, {98, 32}, {99, 33}};
        for (int[] c : cases) {
            x.start(0, c[0]);
            CHECK.due("best(1, NONE) of " + c[0], x.best(1, NONE), c[1]);
            CHECK.due("best(1, 4) of " + c[0], x.best(1, 4), c[1] == 0 ? 0 : 1);
        }
    }

    private static void asManyTimesAsMost() {
        CHECK.about("promise 17, as many times as MOST");
        KnifeTrade x = river(2, new int[] {0, 0, 1, 1, 1});
        x.start(0, 99);
        for (int most : new int[] {0, 1, 2, 98, 99}) {
            x.moves(0, 0, 0, most);
            CHECK.due("best(1, NONE)", x.best(1, NONE), most);
            CHECK.due("best(4, NONE)", x.best(4, NONE), most);
            CHECK.due("best(4, 4)", x.best(4, 4), most == 0 ? 0 : 1);
        }
    }

    private static void heavyNone() {
        CHECK.about("promise 17, '(HEAVY none)'");
        // 10, 12, 14, 16: as many times as ROOM bears.
        KnifeTrade x = river(2, new int[] {0, 0, 1, 1, 3});
        x.start(0, 10);
        int[][] cases = {{9, 0}, {10, 0}, {11, 0}, {12, 3}, {13, 3}, {14, 6}, {29, 27}, {30, 30}};
        for (int[] c : cases) {
            x.put(0, c[0]);
            CHECK.due("best(1, NONE), room " + c[0], x.best(1, NONE), c[1]);
        }
        CHECK.about("promise 17, heavy at the start and the first time: it can not be done");
        x = river(2, new int[] {0, 0, 3, 1, 1});
        x.start(0, 10);
        x.put(0, 8);
        CHECK.dueBest(x, 1, 3, 3);
        x.put(0, 7);
        CHECK.dueBest(x, 1, 0);
    }

    private static void noneWrong() {
        CHECK.about("promise 17, 'none WRONG'");
        KnifeTrade x = river(3, new int[] {1, 0, 1, 1, 1});
        x.start(0, 4);
        CHECK.dueBest(x, 3, 4, 0, 3, 1);
        // frozen
        x.put(3, 2);
        CHECK.dueBest(x, 3, 4, 0, 3, 1);
        x.put(3, 1);
        CHECK.dueBest(x, 3, 0);
        x.put(3, 100);
        // hungry
        x.put(2, 2);
        x.start(2, 4);
        CHECK.dueBest(x, 3, 4, 0, 3, 1);
        x.start(2, 3);
        CHECK.dueBest(x, 3, 0);
        x.put(2, NONE);
        // unwelcome
        x.greeting(1, 2, 3, 0, 0, 0);
        CHECK.dueBest(x, 3, 4, 0, 3, 1);
        x.greeting(1, 2, 4, 0, 0, 0);
        CHECK.dueBest(x, 3, 0);
        x.greeting(1, 2, 0, 0, 0, 0);
        // heavy
        x.put(0, 7);
        CHECK.dueBest(x, 3, 4, 0, 3, 1);
        x.put(0, 6);
        CHECK.dueBest(x, 3, 0);
        x.put(0, 500);
        // at home no greeting can be given
        x.greeting(0, 1, 4, 0, 0, 0);
        CHECK.dueBest(x, 3, 0);
        x.greeting(0, 1, 3, 0, 0, 0);
        CHECK.dueBest(x, 3, 1, 0, 3, 1);
    }

    private static void fewestActs() {
        CHECK.about("promise 17, 'of like ones with the fewest ACTS' ahead of the first row");
        // Row 3 4 is ahead of row 5, but has two acts.
        KnifeTrade x = river(3, new int[] {0, 0, 1, 2, 1}, new int[] {0, 2, 1, 1, 1},
                new int[] {0, 0, 1, 1, 1});
        x.start(0, 4);
        CHECK.dueBest(x, 1, 4, 5);
        CHECK.dueBest(x, 2, 4, 5);
        CHECK.dueBest(x, 4, 4, 5);
        x.moves(2, 0, 0, 3);
        CHECK.dueBest(x, 1, 3, 5);
        CHECK.dueBest(x, 2, 4, 3, 4);
        CHECK.about("promise 17, 'the most of HOME' ahead of the fewest ACTS");
        CHECK.dueBest(x, 4, 4, 3, 4);
        // Of what change 0 took all there would be one too many for change 1.
        x.moves(1, 0, 0, 3);
        CHECK.dueBest(x, 4, 4, 5, 3, 4);
    }

    private static void firstRow() {
        CHECK.about("promise 17, 'then the first row'");
        // Four rows of two acts bring the same.
        KnifeTrade x = river(4, new int[] {0, 0, 1, 1, 1}, new int[] {0, 2, 1, 1, 1},
                new int[] {0, 3, 1, 1, 1});
        x.start(2, 4);
        x.start(3, 4);
        CHECK.dueBest(x, 1, 4, 4);
        CHECK.dueBest(x, 2, 8, 4, 5);
        x.start(0, 4);
        CHECK.dueBest(x, 1, 4, 3);
        CHECK.dueBest(x, 2, 8, 3, 4);
        CHECK.dueBest(x, 3, 12, 3, 4, 5);
        x.moves(0, 0, 0, 3);
        CHECK.dueBest(x, 1, 4, 4);
        CHECK.dueBest(x, 2, 8, 4, 5);
        // Up comes ahead of changes: 0 6 1 3 is the first of the rows that bring 8.
        KnifeTrade y = river(3, new int[] {0, 0, 1, 1, 1}, new int[] {1, 2, 1, 1, 1});
        y.start(0, 4);
        y.start(2, 4);
        CHECK.dueBest(y, 4, 8, 0, 4, 1, 3);
    }

    private static void worth() {
        CHECK.about("promise 18, 'WORTH (n as for best())'");
        RICH.beyond("worth(0, v)", (x, v) -> x.worth(0, v), 0, 4, BAD_WORTH);
        PLAIN.range("worth(0, v)", (x, v) -> x.worth(0, v), 0, 4, 1, BAD_WORTH);
        CHECK.about("promise 18, 'of a THING'");
        RICH.beyond("worth(v, 2)", (x, v) -> x.worth(v, 2), 0, 2, BAD_WORTH);
        PLAIN.beyond("worth(v, 2)", (x, v) -> x.worth(v, 2), 0, 1, BAD_WORTH);
        PLAIN.unchanged("worth(1, 4)", (x, v) -> x.worth(1, 4), 0);
    }

    private static void worthRefused() {
        CHECK.about("promise 18, 'NO: -2000'");
        NO_LANDINGS.refused("worth(0, v)", (x, v) -> x.worth(0, v), NO_WORTH, 0, 1, 2, 3, 4);
        HOMELESS.refused("worth(v, 4)", (x, v) -> x.worth(v, 4), NO_WORTH, 0, 1);
        CHECK.about("promise 18, BAD comes ahead of NO");
        EMPTY.unchanged("worth(0, 4)", (x, v) -> x.worth(0, 4), BAD_WORTH);
        for (Bounds refusing : new Bounds[] {NO_LANDINGS, HOMELESS}) {
            refusing.beyond("worth(v, 4)", (x, v) -> x.worth(v, 4), 0, 1, BAD_WORTH);
            refusing.beyond("worth(0, v)", (x, v) -> x.worth(0, v), 0, 4, BAD_WORTH);
        }
    }

    private static void worthOfOneMore() {
        CHECK.about("promise 18, 'with 1 more of it at START'");
        KnifeTrade x = river(3, new int[] {0, 0, 5, 1, 20});
        int[][] cases = {{0, 0}, {3, 0}, {4, 20}, {5, 0}, {98, 0}, {99, 20}};
        for (int[] c : cases) {
            x.start(0, c[0]);
            CHECK.due("worth(0, 1) of " + c[0], x.worth(0, 1), c[1]);
            CHECK.due("start(0, " + c[0] + ")", x.start(0, c[0]), c[0]);
        }
        // Of home itself 100 are one more than 99.
        x.start(1, 99);
        CHECK.due("worth(1, 0)", x.worth(1, 0), 1);
        CHECK.about("promise 18, one more can be worth less than nothing");
        KnifeTrade y = river(3, new int[] {0, 0, 1, 1, 20});
        y.start(0, 1);
        y.put(0, 20);
        CHECK.due("worth(2, 1)", y.worth(2, 1), -20);
        y.put(0, 21);
        CHECK.due("worth(2, 1)", y.worth(2, 1), 0);
    }

    private static void othersRefused() {
        dueAsBest("promise 19", "lack(v)", (x, v) -> x.lack(v), NONE);
        dueAsBest("promise 20", "crew(v)", (x, v) -> x.crew(v), 1);
        dueAsBest("promise 21", "where(v)", (x, v) -> x.where(v), 0);
    }

    private static void dueAsBest(String promise, String name, Bounds.Call call, int ofPlain) {
        CHECK.about(promise + ", n 0 .. 4 as for best()");
        RICH.beyond(name, call, 0, 4, BAD);
        PLAIN.range(name, call, 0, 4, ofPlain, BAD);
        CHECK.about(promise + ", NO");
        EMPTY.refused(name, call, NO, 0, 4);
        NO_LANDINGS.refused(name, call, NO, 0, 1, 2, 3, 4);
        HOMELESS.refused(name, call, NO, 0, 1, 2, 3, 4);
        CHECK.about(promise + ", BAD comes ahead of NO");
        EMPTY.beyond(name, call, 0, 4, BAD);
        NO_LANDINGS.beyond(name, call, 0, 4, BAD);
        HOMELESS.beyond(name, call, 0, 4, BAD);
    }

    private static void lackOfWhatThereIs() {
        CHECK.about("promise 19, '(those of which START has 1 at least)', 'none'");
        PLAIN.unchanged("lack(4)", (x, v) -> x.lack(4), NONE);
        for (int thing = 0; thing < 6; thing++) {
            KnifeTrade x = Rivers.plain(1, 6);
            CHECK.due("lack(4)", x.lack(4), NONE);
            x.start(thing, 1);
            CHECK.due("lack(4)", x.lack(4), thing);
            CHECK.due("start(" + thing + ", 0)", x.start(thing, 0), 1);
            CHECK.due("lack(4)", x.lack(4), NONE);
        }
    }

    private static void lackOfLikeOnes() {
        CHECK.about("promise 19, 'falls most .. of like ones the least'");
        KnifeTrade x = river(4, new int[] {0, 2, 1, 1, 3}, new int[] {0, 3, 1, 1, 3});
        x.start(0, 9);
        x.start(1, 9);
        x.start(2, 9);
        x.start(3, 9);
        // By 0, 1, 3 and 3; then by 4. Of one act the other change can take the place.
        CHECK.due("lack(2)", x.lack(2), 2);
        CHECK.due("lack(1)", x.lack(1), 1);
        CHECK.due("lack(0)", x.lack(0), 1);
        x.change(0, 3, 1, 1, 4);
        CHECK.due("lack(2)", x.lack(2), 3);
        x.change(0, 2, 1, 1, 4);
        CHECK.due("lack(2)", x.lack(2), 2);
        CHECK.about("promise 19, where it falls nowhere, too");
        KnifeTrade y = river(4);
        y.start(3, 9);
        y.start(2, 9);
        CHECK.due("lack(4)", y.lack(4), 2);
    }

    private static void crewOfLikeOnes() {
        CHECK.about("promise 20, 'HANDS 1 .. 6 with the most HOME so, of like ones the fewest'");
        KnifeTrade x = new KnifeTrade();
        x.landing(0, 0);
        x.landing(9, 1);
        x.thing(1, 0);
        x.thing(1, 0);
        x.put(4, 1);
        x.start(0, 9);
        x.change(1, 0, 1, 1, 1);
        // Days up: 18, 9, 6, 5, 4, 3; a day down.
        int[][] cases = {{400, 1}, {19, 1}, {18, 2}, {10, 2}, {9, 3}, {7, 3}, {6, 4}, {5, 5}, {4, 6},
            {3, 1}, {1, 1}};
        for (int[] c : cases) {
            x.put(3, c[0]);
            CHECK.due("crew(3), ice " + c[0], x.crew(3), c[1]);
            CHECK.due("crew(2), ice " + c[0], x.crew(2), 1);
        }
        CHECK.due("put(1, 2)", x.put(1, 2), 2);
        for (int hands = 1; hands <= 6; hands++) {
            x.put(1, hands);
            CHECK.due("crew(4)", x.crew(4), 1);
            CHECK.due("put(1, " + hands + ")", x.put(1, hands), hands);
        }
    }

    private static void whereOfLikeOnes() {
        CHECK.about("promise 21, 'the LANDING that is best as the POST, of like ones the least'");
        KnifeTrade x = Rivers.plain(6, 3);
        x.put(4, 1);
        x.start(0, 20);
        x.start(2, 20);
        x.change(1, 0, 1, 1, 1);
        x.change(0, 2, 1, 1, 1);
        for (int post = NONE; post <= 5; post++) {
            x.put(5, post);
            CHECK.due("where(4), no change moves", x.where(4), 0);
            CHECK.due("put(5, " + post + ")", x.put(5, post), post);
        }
        x.put(5, NONE);
        x.moves(0, 1, 0, 99);
        CHECK.due("where(2)", x.where(2), 0);
        CHECK.due("where(4)", x.where(4), 1);
        x.moves(1, 1, 0, 99);
        CHECK.due("where(2)", x.where(2), 0);
        CHECK.due("where(4)", x.where(4), 0);
        x.moves(0, 0, 0, 99);
        CHECK.due("where(4)", x.where(4), 0);
        CHECK.due("put(5, NONE)", x.put(5, NONE), NONE);
        CHECK.about("promise 21, one landing alone");
        CHECK.due("where(0)", Rivers.plain(1, 1).where(0), 0);
    }
}
