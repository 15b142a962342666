/** Promises 12 to 14: voyages of texts, and a rival ahead. */
public final class VoyagesTest {
    private static final Check CHECK = new Check();

    public static void main(String[] args) {
        run();
        daysUp();
        foodAndSpoil();
        ice();
        greetings();
        greetingsOverAndOver();
        heavy();
        notDone();
        moved();
        rival();
        rivalGoneWrong();
        CHECK.end();
    }

    /** Two landings a day apart, three things of weight 1 that do not spoil. */
    private static KnifeTrade river() {
        KnifeTrade x = new KnifeTrade();
        x.landing(0, 0);
        x.landing(1, 1);
        for (int i = 0; i < 3; i++) {
            x.thing(1, 0);
        }
        return x;
    }

    private static void run() {
        CHECK.about("promise 12");
        KnifeTrade x = new KnifeTrade();
        CHECK.due("run(0, 0)", x.run(0, 0), -3);
        CHECK.due("run(0, 4)", x.run(0, 4), -2);
        x.landing(0, 0);
        x.landing(3, 2);
        x.landing(4, 5);
        CHECK.due("run(-1, 0)", x.run(-1, 0), -2);
        CHECK.due("run(2, 0)", x.run(2, 0), -2);
        CHECK.due("run(0, -1)", x.run(0, -1), -2);
        CHECK.due("run(0, 4)", x.run(0, 4), -2);
        CHECK.dueRun(x, "", 0, 0, 0, 0);
        CHECK.dueRun(x, "   ", 0, 0, 0, 0);
        CHECK.dueRun(x, "up; up; wait 9; down; down;", 5, 0, 23, 0);
        CHECK.dueRun(x, "up; up; down;", 3, 0, 12, 1);
        // No landing there: no day passes.
        CHECK.dueRun(x, "down; up;", 0, 6, 0, 0);
        CHECK.dueRun(x, "up; up; up; down;", 2, 6, 7, 2);
        CHECK.dueRun(x, "up; down; down; up;", 2, 6, 5, 0);
        Check.tell(x, 0, "up; up");
        for (int what = 0; what < 4; what++) {
            CHECK.due("run(0, " + what + ")", x.run(0, what), -3);
        }
        Check.tell(x, 1, "up;");
        CHECK.due("run(1, 2)", x.run(1, 2), 3);
        CHECK.due("run(0, 5)", x.run(0, 5), -2);
    }

    /** Up takes its days times 2 by hands, rounded up; down takes its days. */
    private static void daysUp() {
        CHECK.about("promise 12");
        for (int up = 1; up <= 9; up++) {
            KnifeTrade x = new KnifeTrade();
            x.landing(0, 0);
            x.landing(up, 10 - up);
            for (int hands = 1; hands <= 6; hands++) {
                x.put(1, hands);
                int days = (int) Math.ceil(up * 2.0 / hands);
                CHECK.dueRun(x, "up;", 1, 0, days, 1);
                CHECK.dueRun(x, "up;down;", 2, 0, days + 10 - up, 0);
            }
        }
    }

    private static void foodAndSpoil() {
        CHECK.about("promise 12");
        KnifeTrade x = new KnifeTrade();
        x.landing(0, 0);
        x.landing(5, 5);
        x.thing(1, 50);
        x.thing(1, 10);
        x.start(0, 13);
        x.start(1, 19);
        // 13 to 7 to 4 to 2 to 1 to 1; 19 to 18 to 17 to 16 to 15 to 14 to 13 and so on.
        CHECK.dueRun(x, "wait 5;", 1, 0, 5, 0);
        CHECK.dueLoads(x, 1, 14);
        // What spoils is gone before hands eat: 13 to 7 less 2, 5 to 3 less 2, 1 is too few.
        x.put(2, 0);
        CHECK.dueRun(x, "wait 2;", 1, 0, 2, 0);
        CHECK.dueLoads(x, 1, 18 - 1);
        CHECK.dueRun(x, "wait 1; wait 3; wait 1;", 1, 1, 3, 0);
        CHECK.dueLoads(x, 1, 16);
        // Wrong on the way: it has not arrived.
        CHECK.dueRun(x, "up;", 0, 1, 3, 0);
        x.put(1, 1);
        x.start(0, 1);
        CHECK.dueRun(x, "wait 1;", 1, 0, 1, 0);
        CHECK.dueLoads(x, 0, 18);
        CHECK.dueRun(x, "wait 2;", 0, 1, 2, 0);
        CHECK.dueLoads(x, 0, 17);
    }

    private static void ice() {
        CHECK.about("promise 12");
        KnifeTrade x = river();
        x.put(3, 4);
        CHECK.dueRun(x, "up; wait 2; down;", 3, 0, 4, 0);
        CHECK.dueRun(x, "up; wait 3; down;", 2, 2, 5, 1);
        CHECK.dueRun(x, "wait 99;", 0, 2, 5, 0);
        // Hungry comes before frozen.
        x.start(0, 8);
        x.put(2, 0);
        CHECK.dueRun(x, "wait 99;", 0, 1, 5, 0);
        x.start(0, 10);
        CHECK.dueRun(x, "wait 99;", 0, 2, 5, 0);
        CHECK.dueLoads(x, 0);
    }

    private static void greetings() {
        CHECK.about("promise 12");
        KnifeTrade x = river();
        x.start(0, 10);
        x.greeting(1, 0, 4, 1, 7, 2);
        // Given on day 1, due on day 3.
        CHECK.dueRun(x, "up;", 1, 0, 1, 1);
        CHECK.dueLoads(x, 6, 0);
        CHECK.dueRun(x, "up; down; up;", 3, 0, 3, 1);
        CHECK.dueLoads(x, 2, 7);
        // Not due yet: in place of what was owed.
        x.greeting(1, 0, 4, 1, 7, 3);
        CHECK.dueRun(x, "up; down; up;", 3, 0, 3, 1);
        CHECK.dueLoads(x, 2, 0);
        // Fewer: it is there, but unwelcome, and gave nothing.
        CHECK.dueRun(x, "up; down; up; down; up; wait 1;", 4, 3, 5, 1);
        CHECK.dueLoads(x, 2, 0);
        // What comes back is there before the greeting is given.
        x.greeting(1, 0, 10, 0, 10, 2);
        CHECK.dueRun(x, "up; down; up; down; up;", 5, 0, 5, 1);
        CHECK.dueLoads(x, 0, 0);
        x.greeting(1, 0, 11, 0, 40, 0);
        CHECK.dueRun(x, "up;", 0, 3, 1, 1);
        CHECK.dueLoads(x, 10, 0);
        // Nothing is owed at the start: to begin at a landing is not to arrive.
        x.greeting(1, 0, 0, 0, 0, 0);
        x.greeting(0, 0, 3, 1, 40, 0);
        CHECK.dueRun(x, "wait 9;", 1, 0, 9, 0);
        CHECK.dueLoads(x, 10, 0);
        CHECK.dueRun(x, "up; down; up; down;", 4, 0, 4, 0);
        CHECK.dueLoads(x, 4, 40);
    }

    private static void greetingsOverAndOver() {
        CHECK.about("promise 12");
        KnifeTrade x = river();
        x.start(0, 10);
        x.greeting(1, 0, 1, 1, 5, 4);
        // Given on days 1, 3 and 5: what is owed from day 5 is due on day 9.
        CHECK.dueRun(x, "up; down; up; down; up; down; up;", 7, 0, 7, 1);
        CHECK.dueLoads(x, 6, 0);
        CHECK.dueRun(x, "up; down; up; down; up; wait 2; down; up;", 8, 0, 9, 1);
        CHECK.dueLoads(x, 6, 5);
        // Owed from the day of the last greeting on, after it came back too.
        CHECK.dueRun(x, "up; wait 2; down; up; down; up;", 6, 0, 7, 1);
        CHECK.dueLoads(x, 7, 5);
    }

    private static void heavy() {
        CHECK.about("promise 12");
        KnifeTrade x = new KnifeTrade();
        x.landing(0, 0);
        x.landing(1, 1);
        x.thing(2, 0);
        x.thing(5, 0);
        x.start(0, 50);
        CHECK.dueRun(x, "up;", 1, 0, 1, 1);
        x.put(0, 99);
        // It arrives and is heavy there; waits do not look at that.
        CHECK.dueRun(x, "wait 2; up; down;", 1, 4, 3, 1);
        CHECK.dueRun(x, "wait 2;", 1, 0, 2, 0);
        // The greeting is given ahead of it.
        x.greeting(1, 0, 1, 0, 0, 0);
        CHECK.dueRun(x, "up;", 1, 0, 1, 1);
        x.greeting(1, 0, 51, 0, 0, 0);
        x.greeting(1, 1, 1, 0, 0, 0);
        CHECK.dueRun(x, "up;", 0, 3, 1, 1);
        // The change that makes it heavy is done; the step did not go right.
        x.greeting(1, 0, 0, 0, 0, 0);
        x.change(0, 0, 1, 1, 1);
        x.put(0, 106);
        CHECK.dueRun(x, "do 0 1; do 0 1;", 2, 0, 0, 0);
        x.put(0, 105);
        CHECK.dueRun(x, "do 0 1; do 0 2;", 1, 4, 0, 0);
        CHECK.dueLoads(x, 48, 2);
        // A change that lightens what is heavy still is heavy.
        x.put(0, 90);
        x.change(0, 0, 4, 1, 1);
        CHECK.dueRun(x, "do 1 3;", 0, 4, 0, 0);
        CHECK.dueLoads(x, 46, 1);
    }

    private static void notDone() {
        CHECK.about("promise 12");
        KnifeTrade x = river();
        x.start(0, 10);
        x.change(0, 0, 3, 1, 1);
        x.change(1, 0, 3, 1, 1);
        CHECK.dueRun(x, "do 2 1;", 0, 5, 0, 0);
        CHECK.dueRun(x, "do 99 1;", 0, 5, 0, 0);
        CHECK.dueRun(x, "do 1 1;", 0, 5, 0, 0);
        CHECK.dueRun(x, "up; do 0 1;", 1, 5, 1, 1);
        CHECK.dueRun(x, "do 0 3; up; do 1 1;", 2, 5, 1, 1);
        CHECK.dueRun(x, "do 0 4;", 0, 5, 0, 0);
        CHECK.dueLoads(x, 1, 3);
        x.moves(0, 0, 0, 2);
        CHECK.dueRun(x, "do 0 1; do 0 1; do 0 1;", 2, 5, 0, 0);
        CHECK.dueLoads(x, 4, 2);
        x.moves(0, 0, 0, 0);
        CHECK.dueRun(x, "do 0 1;", 0, 5, 0, 0);
        CHECK.dueLoads(x, 10, 0);
    }

    private static void moved() {
        CHECK.about("promise 12");
        KnifeTrade x = river();
        x.start(0, 99);
        x.change(0, 0, 2, 1, 1);
        x.moves(0, 2, 3, 99);
        // 2, 2, 3, 3, 4 are given; three days later 3 for one, then 4.
        CHECK.dueRun(x, "do 0 5;", 1, 0, 0, 0);
        CHECK.dueLoads(x, 85, 5);
        CHECK.dueRun(x, "do 0 5; wait 2; do 0 1;", 3, 0, 2, 0);
        CHECK.dueLoads(x, 81, 6);
        CHECK.dueRun(x, "do 0 5; wait 3; do 0 2;", 3, 0, 3, 0);
        CHECK.dueLoads(x, 78, 7);
        // No less than 0, and days since the start count, not those since it moved.
        CHECK.dueRun(x, "wait 2; do 0 3; wait 1; do 0 2; wait 30; do 0 1;", 6, 0, 33, 0);
        CHECK.dueLoads(x, 99 - 2 - 2 - 3 - 2 - 3 - 2, 6);
        // Each voyage begins with changes that have not moved.
        CHECK.dueRun(x, "do 0 1;", 1, 0, 0, 0);
        CHECK.dueLoads(x, 97, 1);
        x.moves(0, 1, 0, 99);
        CHECK.dueRun(x, "do 0 3; wait 99; do 0 1;", 3, 0, 99, 0);
        CHECK.dueLoads(x, 99 - 2 - 3 - 4 - 5, 4);
        x.moves(0, 0, 3, 99);
        CHECK.dueRun(x, "do 0 9;", 1, 0, 0, 0);
        CHECK.dueLoads(x, 81, 9);
        // At the post it does not move, elsewhere it does.
        x.moves(0, 1, 0, 99);
        x.put(5, 0);
        CHECK.dueRun(x, "do 0 9;", 1, 0, 0, 0);
        CHECK.dueLoads(x, 81, 9);
        x.put(5, 1);
        CHECK.dueRun(x, "do 0 3;", 1, 0, 0, 0);
        CHECK.dueLoads(x, 90, 3);
    }

    private static void rival() {
        CHECK.about("promise 14");
        KnifeTrade x = river();
        x.start(0, 50);
        x.greeting(1, 0, 1, 2, 9, 0);
        x.change(1, 0, 2, 1, 1);
        x.moves(0, 1, 4, 9);
        Check.tell(x, 0, "up; do 0 2; down; up;");
        Check.tell(x, 1, "up; do 0 5; down;");
        // The rival ends on day 2 with m 5: on day 4 it is 4, on day 8 it is 3.
        int[][] waits = {{0, 5}, {1, 5}, {2, 4}, {5, 4}, {6, 3}, {10, 2}, {99, 0}};
        for (int[] wait : waits) {
            int m = wait[1];
            CHECK.due("rival(" + wait[0] + ", 4)", x.rival(wait[0], 4), 50 - 2 - (4 + 2 * m + 1));
            CHECK.due("rival(" + wait[0] + ", 5)", x.rival(wait[0], 5), 2);
            CHECK.due("rival(" + wait[0] + ", 6)", x.rival(wait[0], 6), 9);
            CHECK.due("rival(" + wait[0] + ", 0)", x.rival(wait[0], 0), 4);
            CHECK.due("rival(" + wait[0] + ", 1)", x.rival(wait[0], 1), 0);
            CHECK.due("rival(" + wait[0] + ", 2)", x.rival(wait[0], 2), 3);
            CHECK.due("rival(" + wait[0] + ", 3)", x.rival(wait[0], 3), 1);
        }
        // Its days go on from its last one: day 3 to 6.
        Check.tell(x, 1, "up; do 0 5; wait 1; down;");
        CHECK.due("run(1, 2)", x.run(1, 2), 3);
        CHECK.due("rival(0, 4)", x.rival(0, 4), 33);
        CHECK.due("rival(1, 4)", x.rival(1, 4), 35);
        CHECK.due("rival(4, 4)", x.rival(4, 4), 35);
        CHECK.due("rival(5, 4)", x.rival(5, 4), 37);
        Check.tell(x, 1, "up; do 0 5; down;");
        // What it did counts against most.
        x.moves(0, 1, 4, 6);
        CHECK.due("rival(0, 0)", x.rival(0, 0), 1);
        CHECK.due("rival(0, 1)", x.rival(0, 1), 5);
        CHECK.due("rival(0, 5)", x.rival(0, 5), 1);
        CHECK.due("run(0, 1)", x.run(0, 1), 0);
        // Changes come back by the days of the one that goes: from day 0 again.
        Check.tell(x, 0, "up; wait 3; do 0 1;");
        CHECK.due("rival(0, 4)", x.rival(0, 4), 49 - 2 - 4);
        // The tally goes on too.
        x.moves(0, 3, 0, 99);
        Check.tell(x, 1, "up; do 0 2;");
        Check.tell(x, 0, "up; do 0 2;");
        CHECK.due("rival(0, 4)", x.rival(0, 4), 49 - 2 - 3);
        x.put(5, 1);
        CHECK.due("rival(0, 4)", x.rival(0, 4), 49 - 2 - 2);
    }

    /** A rival goes as far as it goes right; what its wrong step did till then stays done. */
    private static void rivalGoneWrong() {
        CHECK.about("promise 14");
        KnifeTrade x = river();
        x.start(0, 10);
        x.change(0, 0, 3, 1, 1);
        x.moves(0, 1, 5, 99);
        Check.tell(x, 0, "do 0 1;");
        Check.tell(x, 1, "do 0 9; wait 9;");
        // Done for 3 and for 4: m is 2, and day 0 goes on.
        CHECK.due("run(1, 1)", x.run(1, 1), 5);
        CHECK.due("rival(4, 4)", x.rival(4, 4), 5);
        CHECK.due("rival(5, 4)", x.rival(5, 4), 6);
        // Frozen on day 5: it ends before changes come back.
        x.put(3, 4);
        Check.tell(x, 1, "do 0 2; wait 9; do 0 1;");
        CHECK.due("run(1, 2)", x.run(1, 2), 5);
        CHECK.due("rival(4, 4)", x.rival(4, 4), 5);
        CHECK.due("rival(5, 4)", x.rival(5, 4), 6);
        CHECK.due("rival(5, 1)", x.rival(5, 1), 0);
    }
}
