/** Promise 14: each bound that is told of a rival ahead. */
public final class RivalBoundsTest {
    private static final int BAD = KnifeTrade.BAD;
    private static final int NO = KnifeTrade.NO;

    private static final Check CHECK = new Check();
    private static final Bounds EMPTY = new Bounds(CHECK, KnifeTrade::new);
    private static final Bounds RICH = new Bounds(CHECK, Rivers::rich);
    private static final Bounds PLAIN = new Bounds(CHECK, () -> Rivers.plain(1, 6));

    public static void main(String[] args) {
        days();
        what();
        whatOfThings();
        refusedForAFault();
        refusedForNoLandings();
        badAheadOfNo();
        emptyVoyages();
        goodsAreItsOwn();
        asFarAsItGoesRight();
        wrongOnADayOfComingBack();
        daysPassForChangesAlone();
        daysOfItGoOn();
        timesDone();
        moved();
        tally();
        ownDays();
        nothingStays();
        CHECK.end();
    }

    /** At landing 0 a change of a of thing 0, of which there are 99, for one of thing 1. */
    private static KnifeTrade trade(int a, int each, int back, int most) {
        KnifeTrade x = Rivers.plain(2, 2);
        x.start(0, 99);
        x.change(0, 0, a, 1, 1);
        x.moves(0, each, back, most);
        return x;
    }

    private static void tell(KnifeTrade x, String own, String ahead) {
        Check.tell(x, 0, own);
        Check.tell(x, 1, ahead);
    }

    /** The whole of a voyage behind a rival: right, wrong, day, landing, and of thing 0 and 1. */
    private static void dueRival(KnifeTrade x, int days, int... due) {
        for (int what = 0; what < due.length; what++) {
            CHECK.due("rival(" + days + ", " + what + ")", x.rival(days, what), due[what]);
        }
    }

    private static void days() {
        CHECK.about("promise 14, 'so many days (0 .. 99) ahead'");
        PLAIN.range("rival(v, 0)", (x, v) -> x.rival(v, 0), 0, 99, 0, BAD);
        PLAIN.range("rival(v, 9)", (x, v) -> x.rival(v, 9), 0, 99, 0, BAD);
        RICH.beyond("rival(v, 1)", (x, v) -> x.rival(v, 1), 0, 99, BAD);
    }

    private static void what() {
        CHECK.about("promise 14, 'as run() (what = 0 .. 3), THING what less 4 (4 .. 9)'");
        PLAIN.range("rival(0, v)", (x, v) -> x.rival(0, v), 0, 9, 0, BAD);
        KnifeTrade x = Rivers.plain(2, 6);
        for (int i = 0; i < 6; i++) {
            x.start(i, 10 + i);
        }
        tell(x, "wait 4; up; up;", "");
        dueRival(x, 0, 2, 6, 5, 1, 10, 11, 12, 13, 14, 15, BAD);
    }

    private static void whatOfThings() {
        CHECK.about("promise 14, THING what less 4 is there");
        for (int things = 0; things <= 6; things++) {
            int t = things;
            Bounds some = new Bounds(CHECK, () -> Rivers.plain(1, t));
            some.range("rival(9, v) of " + t + " things", (x, v) -> x.rival(9, v), 0, 3 + t, 0, BAD);
        }
    }

    private static KnifeTrade told(int landings, String own, String ahead) {
        KnifeTrade x = Rivers.plain(landings, 2);
        tell(x, own, ahead);
        return x;
    }

    private static void refusedForAFault() {
        CHECK.about("promise 14, 'NO: a FAULT of one'");
        for (String[] t : new String[][] {{"up", ""}, {"", "up"}, {"up", "up"}, {"up;", "do 0 0;"},
            {"wait 100;", "up;"}}) {
            Bounds faulty = new Bounds(CHECK, () -> told(2, t[0], t[1]));
            faulty.refused("rival(0, v)", (x, v) -> x.rival(0, v), NO, 0, 1, 2, 3, 4, 5);
            faulty.refused("rival(v, 0)", (x, v) -> x.rival(v, 0), NO, 0, 99);
        }
        // A step that goes wrong is no fault.
        CHECK.due("rival(0, 0)", told(2, "up;", "down;").rival(0, 0), 1);
        CHECK.due("rival(0, 1)", told(2, "down;", "up;").rival(0, 1), 6);
    }

    private static void refusedForNoLandings() {
        CHECK.about("promise 14, 'NO: .. no LANDINGS'");
        EMPTY.refused("rival(0, v)", (x, v) -> x.rival(0, v), NO, 0, 1, 2, 3);
        Bounds noLandings = new Bounds(CHECK, () -> told(0, "up;", "up;"));
        noLandings.refused("rival(99, v)", (x, v) -> x.rival(99, v), NO, 0, 1, 2, 3, 4, 5);
    }

    private static void badAheadOfNo() {
        CHECK.about("promise 14, BAD comes ahead of NO");
        EMPTY.beyond("rival(v, 0)", (x, v) -> x.rival(v, 0), 0, 99, BAD);
        EMPTY.beyond("rival(0, v)", (x, v) -> x.rival(0, v), 0, 3, BAD);
        Bounds faulty = new Bounds(CHECK, () -> told(2, "up", "up"));
        faulty.beyond("rival(v, 0)", (x, v) -> x.rival(v, 0), 0, 99, BAD);
        faulty.beyond("rival(0, v)", (x, v) -> x.rival(0, v), 0, 5, BAD);
    }

    private static void emptyVoyages() {
        CHECK.about("promise 14, an empty VOYAGE 1: as without a rival");
        KnifeTrade x = trade(5, 1, 3, 9);
        tell(x, "do 0 3; wait 2;", "");
        for (int days : new int[] {0, 1, 99}) {
            dueRival(x, days, 2, 0, 2, 0, 99 - 18, 3);
        }
        CHECK.about("promise 14, an empty VOYAGE 0");
        tell(x, "", "do 0 3; wait 2;");
        dueRival(x, 5, 0, 0, 0, 0, 99, 0);
    }

    /** What the rival has and what it is owed is not this boat's. */
    private static void goodsAreItsOwn() {
        CHECK.about("promise 14, 'VOYAGE 0 goes with CHANGES as they are then'");
        KnifeTrade x = Rivers.plain(2, 3);
        x.start(0, 40);
        x.greeting(1, 0, 2, 2, 9, 0);
        tell(x, "up;", "up; down;");
        dueRival(x, 0, 1, 0, 1, 1, 38, 0, 0);
        dueRival(x, 99, 1, 0, 1, 1, 38, 0, 0);
        tell(x, "up; down; up;", "up;");
        dueRival(x, 99, 3, 0, 3, 1, 36, 0, 9);
    }

    private static void asFarAsItGoesRight() {
        CHECK.about("promise 14, '(as far as it goes right)'");
        KnifeTrade x = trade(5, 1, 0, 9);
        // No landing there: what is behind that step is not done.
        tell(x, "do 0 1;", "do 0 2; down; do 0 1;");
        dueRival(x, 0, 1, 0, 0, 0, 99 - 7, 1);
        tell(x, "do 0 1;", "down; do 0 2;");
        dueRival(x, 0, 1, 0, 0, 0, 99 - 5, 1);
        // Not enough the third time: what was done till then stays done.
        x.moves(0, 1, 0, 2);
        tell(x, "do 0 1;", "do 0 9;");
        dueRival(x, 0, 0, 5, 0, 0, 99, 0);
        x.moves(0, 1, 0, 3);
        dueRival(x, 0, 0, 5, 0, 0, 99, 0);
        x.moves(0, 1, 0, 99);
        tell(x, "do 0 1;", "do 0 2; do 9 1; do 0 1;");
        dueRival(x, 0, 1, 0, 0, 0, 99 - 7, 1);
        // Too heavy behind the third time, which is done: 50, 69, 87, 104.
        KnifeTrade y = Rivers.plain(1, 2);
        y.start(0, 50);
        y.change(0, 0, 1, 1, 20);
        y.moves(0, 1, 0, 99);
        y.put(0, 100);
        tell(y, "do 0 1;", "do 0 9;");
        CHECK.due("run(1, 1)", y.run(1, 1), 4);
        dueRival(y, 0, 1, 0, 0, 0, 50 - 4, 20);
    }

    /** The step ends on the day on which it goes wrong, before changes come back. */
    private static void wrongOnADayOfComingBack() {
        CHECK.about("promise 14, 'A DAY passes: .. HUNGRY .. FROZEN; CHANGES come back', in that row");
        KnifeTrade x = trade(5, 1, 3, 99);
        tell(x, "do 0 1;", "do 0 2; wait 3;");
        dueRival(x, 0, 1, 0, 0, 0, 99 - 6, 1);
        x.put(3, 2);
        CHECK.due("run(1, 1)", x.run(1, 1), 2);
        dueRival(x, 0, 1, 0, 0, 0, 99 - 7, 1);
        dueRival(x, 2, 1, 0, 0, 0, 99 - 7, 1);
        dueRival(x, 3, 1, 0, 0, 0, 99 - 6, 1);
        x.put(3, 100);
        x.put(2, 1);
        x.start(1, 2);
        // Two come of the changes: 4 are eaten in two days, and it is hungry on the third one.
        CHECK.due("run(1, 1)", x.run(1, 1), 1);
        CHECK.due("run(1, 2)", x.run(1, 2), 3);
        dueRival(x, 0, 1, 0, 0, 0, 99 - 7, 3);
        dueRival(x, 3, 1, 0, 0, 0, 99 - 6, 3);
    }

    private static void daysPassForChangesAlone() {
        CHECK.about("promise 14, 'so many days pass for CHANGES alone'");
        KnifeTrade x = trade(5, 1, 30, 9);
        x.put(2, 1);
        x.put(3, 1);
        tell(x, "do 0 1;", "do 0 4;");
        // Nobody eats and nothing is frozen on those days: m is 4, and 1 less each 30 days.
        int[][] cases = {{0, 4}, {1, 4}, {29, 4}, {30, 3}, {59, 3}, {60, 2}, {89, 2}, {90, 1}, {99, 1}};
        for (int[] c : cases) {
            dueRival(x, c[0], 1, 0, 0, 0, 99 - 5 - c[1], 1);
        }
        x.moves(0, 1, 1, 9);
        dueRival(x, 3, 1, 0, 0, 0, 99 - 6, 1);
        dueRival(x, 4, 1, 0, 0, 0, 99 - 5, 1);
        dueRival(x, 5, 1, 0, 0, 0, 99 - 5, 1);
        dueRival(x, 99, 1, 0, 0, 0, 99 - 5, 1);
        x.moves(0, 1, 0, 9);
        dueRival(x, 99, 1, 0, 0, 0, 99 - 9, 1);
    }

    private static void daysOfItGoOn() {
        CHECK.about("promise 14, '(DAYS of it go on)'");
        for (int waited = 1; waited <= 8; waited++) {
            KnifeTrade x = trade(5, 1, 4, 99);
            tell(x, "do 0 1;", "wait " + waited + "; do 0 4;");
            for (int days = 0; days <= 9; days++) {
                int m = 4 - ((waited + days) / 4 - waited / 4);
                dueRival(x, days, 1, 0, 0, 0, 99 - 5 - m, 1);
            }
        }
    }

    private static void timesDone() {
        CHECK.about("promise 14, '(times done too)'");
        for (int ahead = 1; ahead <= 5; ahead++) {
            KnifeTrade x = trade(1, 0, 0, 5);
            int left = 5 - ahead;
            tell(x, "do 0 5;", "do 0 " + ahead + ";");
            dueRival(x, 99, 0, 5, 0, 0, 99 - left, left);
            if (left > 0) {
                tell(x, "do 0 " + left + ";", "do 0 " + ahead + ";");
                dueRival(x, 99, 1, 0, 0, 0, 99 - left, left);
            }
        }
    }

    private static void moved() {
        CHECK.about("promise 14, CHANGES as they are then: m");
        KnifeTrade x = trade(5, 3, 0, 99);
        for (int ahead = 1; ahead <= 9; ahead++) {
            tell(x, "do 0 1;", "do 0 " + ahead + ";");
            dueRival(x, 0, 1, 0, 0, 0, 99 - 5 - ahead / 3, 1);
        }
        CHECK.about("promise 14, at the post nothing moves");
        x.put(5, 0);
        dueRival(x, 0, 1, 0, 0, 0, 99 - 5, 1);
    }

    private static void tally() {
        CHECK.about("promise 14, CHANGES as they are then: the TALLY");
        for (int ahead = 1; ahead <= 8; ahead++) {
            KnifeTrade x = trade(1, 9, 0, 99);
            // The ninth of all is the last that costs 1, the eighteenth the last that costs 2.
            tell(x, "do 0 10;", "do 0 " + ahead + ";");
            dueRival(x, 50, 1, 0, 0, 0, 99 - 10 - 1 - ahead, 10);
        }
    }

    private static void ownDays() {
        CHECK.about("promise 14, 'from DAY 0 (CHANGES come back by its own DAYS)'");
        KnifeTrade x = trade(5, 1, 4, 99);
        x.put(3, 9);
        for (int waited = 1; waited <= 9; waited++) {
            tell(x, "wait " + waited + "; do 0 1;", "wait 3; do 0 3; wait 6;");
            // On days 4 and 8 of the rival's m is 1 less.
            dueRival(x, 0, 2, 0, waited, 0, 99 - 5 - Math.max(0, 1 - waited / 4), 1);
        }
        CHECK.about("promise 14, its ice is its own");
        tell(x, "wait 9;", "wait 9;");
        dueRival(x, 99, 1, 0, 9, 0);
        tell(x, "wait 9; wait 1;", "wait 9;");
        dueRival(x, 0, 1, 2, 10, 0);
    }

    private static void nothingStays() {
        CHECK.about("promise 14, the next voyage goes without a rival");
        KnifeTrade x = trade(5, 1, 0, 3);
        tell(x, "do 0 3;", "do 0 3;");
        for (int i = 0; i < 2; i++) {
            dueRival(x, 0, 0, 5, 0, 0, 99, 0);
            CHECK.due("run(0, 0)", x.run(0, 0), 1);
            CHECK.due("load(0, 0)", x.load(0, 0), 99 - 18);
            CHECK.due("run(1, 1)", x.run(1, 1), 0);
        }
    }
}
