/** Promises 17 to 21: the best voyage, what a thing is worth, what is lacked, hands, the post. */
public final class BestTest {
    private static final Check CHECK = new Check();

    public static void main(String[] args) {
        best();
        bestOfLikeOnes();
        asManyTimes();
        bestGoesOn();
        bestComesBack();
        bestWithGreetings();
        worth();
        lack();
        crew();
        where();
        nothingIsChanged();
        CHECK.end();
    }

    /** Two landings a day apart, so many things of weight 1 that do not spoil; home is thing 1. */
    private static KnifeTrade river(int things) {
        KnifeTrade x = Rivers.plain(2, things);
        x.put(4, 1);
        return x;
    }

    private static void best() {
        CHECK.about("promise 17");
        KnifeTrade x = river(3);
        x.start(0, 12);
        CHECK.dueBest(x, 4, 0);
        x.start(1, 2);
        CHECK.dueBest(x, 4, 2);
        x.change(0, 0, 3, 1, 1);
        CHECK.dueBest(x, 0, 2);
        CHECK.dueBest(x, 1, 6, 3);
        CHECK.dueBest(x, 4, 6, 3);
        x.change(1, 0, 3, 1, 2);
        CHECK.dueBest(x, 2, 6, 3);
        CHECK.dueBest(x, 3, 10, 0, 4, 1);
        x.change(0, 0, 1, 2, 1);
        x.change(1, 2, 1, 1, 1);
        CHECK.dueBest(x, 3, 10, 0, 4, 1);
        CHECK.dueBest(x, 4, 14, 5, 0, 6, 1);
        x.put(4, 2);
        CHECK.dueBest(x, 4, 12, 5);
        x.put(4, 0);
        CHECK.dueBest(x, 4, 12);
    }

    private static void bestOfLikeOnes() {
        CHECK.about("promise 17");
        KnifeTrade x = river(3);
        x.start(0, 4);
        x.start(2, 4);
        x.change(0, 2, 1, 1, 1);
        x.change(0, 0, 1, 1, 1);
        // Both rows bring 8: the first one.
        CHECK.dueBest(x, 1, 4, 3);
        CHECK.dueBest(x, 2, 8, 3, 4);
        CHECK.dueBest(x, 4, 8, 3, 4);
        // Fewer acts come ahead of the first row.
        x.change(0, 0, 1, 2, 1);
        CHECK.dueBest(x, 4, 8, 3, 4);
        x.change(0, 0, 1, 1, 2);
        CHECK.dueBest(x, 4, 12, 3, 6);
        x.change(0, 0, 4, 1, 12);
        CHECK.dueBest(x, 1, 12, 7);
        CHECK.dueBest(x, 2, 16, 3, 7);
        KnifeTrade y = river(2);
        y.start(0, 4);
        y.change(1, 0, 1, 1, 1);
        y.change(0, 0, 1, 1, 1);
        // The row that begins with up is the first one, but it has more acts.
        CHECK.dueBest(y, 4, 4, 4);
    }

    private static void asManyTimes() {
        CHECK.about("promise 17");
        KnifeTrade x = river(3);
        x.start(0, 11);
        x.change(0, 0, 2, 1, 3);
        CHECK.dueBest(x, 1, 15, 3);
        x.moves(0, 0, 0, 3);
        CHECK.dueBest(x, 1, 9, 3);
        CHECK.dueBest(x, 4, 9, 3);
        x.moves(0, 0, 0, 0);
        CHECK.dueBest(x, 4, 0);
        // 2, 3, 4 are given.
        x.moves(0, 1, 0, 99);
        CHECK.dueBest(x, 1, 9, 3);
        // On each day it comes back by one: behind 2, 3, 4 it gives 4 again on day 1, 3 on day 2.
        x.moves(0, 1, 1, 99);
        CHECK.dueBest(x, 4, 9, 3);
        x.start(0, 12);
        CHECK.dueBest(x, 3, 9, 3);
        // Up and down pass two days as two waits do, and are the first row.
        CHECK.dueBest(x, 4, 12, 3, 0, 1, 3);
        x.start(0, 13);
        CHECK.dueBest(x, 3, 12, 3, 2, 3);
        CHECK.dueBest(x, 4, 12, 3, 2, 3);
        // No time that would be heavy.
        x.moves(0, 0, 0, 99);
        x.start(0, 12);
        x.put(0, 15);
        CHECK.dueBest(x, 1, 9, 3);
        x.put(0, 12);
        CHECK.dueBest(x, 1, 0);
        // What is heavy at the start must be light enough behind the first time.
        x.change(0, 0, 6, 1, 5);
        x.put(0, 11);
        CHECK.dueBest(x, 1, 10, 4);
        x.put(0, 10);
        CHECK.dueBest(x, 4, 0);
        // Ninety-nine times in all and no more.
        KnifeTrade y = river(2);
        y.start(0, 99);
        y.change(0, 0, 1, 1, 2);
        y.change(0, 1, 2, 0, 2);
        CHECK.dueBest(y, 1, 198, 3);
        CHECK.dueBest(y, 4, 198, 3);
    }

    /** How often a change was done, and how it moved, goes on from act to act. */
    private static void bestGoesOn() {
        CHECK.about("promise 17");
        KnifeTrade x = new KnifeTrade();
        x.landing(0, 0);
        x.thing(2, 0);
        x.thing(1, 0);
        x.thing(1, 0);
        x.put(4, 1);
        x.start(0, 1);
        x.start(2, 1);
        x.change(0, 0, 1, 1, 1);
        x.change(0, 2, 1, 0, 2);
        CHECK.dueBest(x, 2, 3, 4, 3);
        // So little room that change 0 must be done ahead of change 1 and behind it.
        x.put(0, 5);
        CHECK.dueBest(x, 3, 3, 3, 4, 3);
        CHECK.dueBest(x, 2, 1, 3);
        x.moves(0, 2, 0, 99);
        CHECK.dueBest(x, 3, 2, 3, 4, 3);
        x.moves(0, 1, 0, 99);
        CHECK.dueBest(x, 3, 2, 3, 4, 3);
        x.moves(0, 0, 0, 2);
        CHECK.dueBest(x, 3, 2, 3, 4, 3);
        // What moved weighs more when it is given: 2 for 4, then 3 for 4 of thing 0.
        KnifeTrade y = river(2);
        y.start(0, 10);
        y.change(0, 0, 2, 1, 4);
        y.moves(0, 1, 0, 99);
        y.put(0, 13);
        CHECK.dueBest(y, 1, 12, 3);
        y.put(0, 12);
        CHECK.dueBest(y, 1, 4, 3);
    }

    private static void bestComesBack() {
        CHECK.about("promise 17");
        KnifeTrade x = river(2);
        x.landing(1, 1);
        x.start(0, 5);
        x.change(1, 0, 1, 1, 1);
        x.change(2, 0, 1, 1, 9);
        CHECK.dueBest(x, 2, 0);
        CHECK.dueBest(x, 3, 5, 0, 3, 1);
        // Landing 2 takes five acts.
        CHECK.dueBest(x, 4, 5, 0, 3, 1);
    }

    private static void bestWithGreetings() {
        CHECK.about("promise 17");
        KnifeTrade x = river(2);
        x.start(1, 3);
        // One given at landing 0 on day 2, nine come back there on day 4.
        x.greeting(0, 1, 1, 1, 9, 2);
        CHECK.dueBest(x, 3, 3);
        CHECK.dueBest(x, 4, 10, 0, 1, 0, 1);
        x.greeting(0, 1, 1, 1, 9, 3);
        CHECK.dueBest(x, 4, 3);
        x.greeting(0, 1, 1, 1, 1, 2);
        CHECK.dueBest(x, 4, 3);
    }

    private static void worth() {
        CHECK.about("promise 18");
        KnifeTrade x = river(3);
        x.start(0, 11);
        x.change(0, 0, 3, 1, 5);
        CHECK.due("worth(0, 1)", x.worth(0, 1), 5);
        CHECK.due("worth(0, 0)", x.worth(0, 0), 0);
        CHECK.due("worth(1, 1)", x.worth(1, 1), 1);
        CHECK.due("worth(2, 1)", x.worth(2, 1), 0);
        x.start(0, 99);
        x.start(1, 99);
        CHECK.due("worth(1, 4)", x.worth(1, 4), 1);
        x.change(0, 0, 20, 1, 20);
        x.moves(0, 0, 0, 0);
        // With a hundred it is one time more than with 99.
        CHECK.due("worth(0, 4)", x.worth(0, 4), 20);
        // One more of a thing can make the boat heavy.
        x.moves(0, 0, 0, 99);
        x.start(0, 11);
        x.start(1, 0);
        x.put(0, 17);
        CHECK.due("best(1, NONE)", x.best(1, -1), 15);
        CHECK.due("worth(2, 1)", x.worth(2, 1), -5);
        CHECK.due("start(2, 0)", x.start(2, 0), 0);
    }

    private static void lack() {
        CHECK.about("promise 19");
        KnifeTrade x = river(4);
        CHECK.due("lack(4)", x.lack(4), -1);
        x.start(3, 1);
        CHECK.due("lack(4)", x.lack(4), 3);
        x.start(2, 4);
        CHECK.due("lack(4)", x.lack(4), 2);
        x.start(0, 12);
        CHECK.due("lack(4)", x.lack(4), 0);
        x.change(0, 2, 2, 1, 3);
        x.change(0, 0, 3, 1, 2);
        CHECK.due("lack(4)", x.lack(4), 2);
        CHECK.due("lack(0)", x.lack(0), 0);
        x.start(0, 13);
        x.start(2, 5);
        CHECK.due("lack(4)", x.lack(4), 0);
        // Of what there is not at the start nothing can be less.
        x.start(1, 1);
        CHECK.due("lack(4)", x.lack(4), 1);
        // It may fall by less than nothing: by 6 less than that without thing 0, by 3 without 2.
        KnifeTrade y = new KnifeTrade();
        y.landing(0, 0);
        y.thing(4, 0);
        y.thing(1, 0);
        y.thing(1, 0);
        y.put(4, 1);
        y.put(0, 23);
        y.start(0, 1);
        y.start(2, 18);
        y.change(0, 2, 1, 1, 3);
        CHECK.due("best(1, NONE)", y.best(1, -1), 0);
        CHECK.due("lack(1)", y.lack(1), 2);
    }

    private static void crew() {
        CHECK.about("promise 20");
        KnifeTrade x = new KnifeTrade();
        x.landing(0, 0);
        x.landing(6, 1);
        x.thing(1, 0);
        x.thing(1, 0);
        x.put(0, 500);
        x.put(4, 1);
        x.start(0, 90);
        x.change(1, 0, 10, 1, 1);
        CHECK.due("crew(4)", x.crew(4), 1);
        // Days up: 12, 6, 4, 3, 3, 2; all must be within the ice.
        x.put(3, 5);
        CHECK.due("crew(4)", x.crew(4), 3);
        CHECK.due("crew(2)", x.crew(2), 1);
        x.put(3, 4);
        CHECK.due("crew(4)", x.crew(4), 4);
        x.put(3, 3);
        CHECK.due("crew(4)", x.crew(4), 6);
        x.put(3, 2);
        CHECK.due("crew(4)", x.crew(4), 1);
        x.put(3, 100);
        // Eaten on the way up: 12, by five hands 15. Of 90 all can change seven times.
        x.put(2, 0);
        CHECK.due("crew(4)", x.crew(4), 1);
        // Of 82 seven times leave nothing to eat on the way down; five hands change but six times.
        x.start(0, 82);
        CHECK.due("best(3, NONE)", x.best(3, -1), 0);
        CHECK.due("crew(3)", x.crew(3), 5);
        CHECK.due("put(1, 2)", x.put(1, 2), 2);
    }

    private static void where() {
        CHECK.about("promise 21");
        KnifeTrade x = river(3);
        x.start(0, 12);
        x.start(2, 12);
        x.change(0, 0, 1, 1, 1);
        x.change(1, 2, 1, 1, 2);
        CHECK.due("where(4)", x.where(4), 0);
        x.moves(1, 1, 0, 99);
        CHECK.due("where(4)", x.where(4), 1);
        CHECK.due("where(2)", x.where(2), 0);
        x.moves(0, 1, 0, 99);
        CHECK.due("where(4)", x.where(4), 1);
        x.start(2, 1);
        CHECK.due("where(4)", x.where(4), 0);
        x.put(5, 1);
        CHECK.due("where(4)", x.where(4), 0);
        CHECK.due("put(5, NONE)", x.put(5, -1), 1);
        CHECK.due("where(4)", x.where(4), 0);
        CHECK.due("put(5, NONE)", x.put(5, -1), -1);
        whereNoneWereBetter();
    }

    /** Changes that do not move can take too much of the food; a post is at a landing for all that. */
    private static void whereNoneWereBetter() {
        KnifeTrade x = river(3);
        x.put(1, 1);
        x.put(2, 0);
        x.start(0, 4);
        x.start(2, 4);
        x.change(1, 0, 1, 1, 1);
        x.moves(0, 1, 0, 99);
        x.change(0, 2, 1, 0, 1);
        x.moves(1, 1, 0, 99);
        // 2 more food; 2 eaten on the way up, 1 and 2 given, 1 left for the way down.
        CHECK.dueBest(x, 4, 2, 4, 0, 3, 1);
        x.put(5, 0);
        CHECK.dueBest(x, 4, 1, 0, 3, 1);
        x.put(5, 1);
        CHECK.dueBest(x, 4, 0);
        CHECK.due("where(4)", x.where(4), 0);
    }

    private static void nothingIsChanged() {
        CHECK.about("promises 17 to 21");
        KnifeTrade x = river(3);
        x.start(0, 99);
        x.start(1, 1);
        x.put(1, 3);
        x.put(5, 1);
        x.change(0, 0, 1, 1, 2);
        x.moves(0, 1, 1, 99);
        Check.tell(x, 0, "do 0 2;");
        long before = x.digest();
        int load = x.load(0, 0);
        for (int n = 0; n <= 4; n++) {
            x.best(n, -1);
            x.worth(0, n);
            x.lack(n);
            x.crew(n);
            x.where(n);
        }
        CHECK.due("digest()", x.digest(), before);
        CHECK.due("load(0, 0)", x.load(0, 0), load);
    }
}
