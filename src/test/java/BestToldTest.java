import java.util.ArrayList;
import java.util.List;
import java.util.function.Supplier;

/**
 * Promise 17: the best voyage is the best one of all that texts can tell. Acts of changes go on
 * from one to the next one: how often each was done, how it moved, and its tally.
 */
public final class BestToldTest {
    private static final Check CHECK = new Check();

    private final Supplier<KnifeTrade> made;
    private final int home;
    private final int acts;
    private int most;
    private List<Integer> best;

    private BestToldTest(Supplier<KnifeTrade> made) {
        this.made = made;
        KnifeTrade x = made.get();
        home = x.put(4, 0);
        acts = 3 + x.count(2);
    }

    public static void main(String[] args) {
        tallies();
        times();
        days();
        rooms();
        landings();
        CHECK.end();
    }

    private void dueBest(int n) {
        most = -1;
        for (int length = 0; length <= n; length++) {
            tryRows(length, new ArrayList<>(), "");
        }
        int[] row = new int[best.size()];
        for (int i = 0; i < row.length; i++) {
            row[i] = best.get(i);
        }
        CHECK.dueBest(made.get(), n, most, row);
    }

    /** All rows of one length that go on from this one, in their order: the first best one stays. */
    private void tryRows(int left, List<Integer> row, String words) {
        if (left == 0) {
            KnifeTrade x = made.get();
            Check.tell(x, 0, words);
            if (x.run(0, 3) == 0 && x.load(0, home) > most) {
                most = x.load(0, home);
                best = new ArrayList<>(row);
            }
            return;
        }
        for (int act = 0; act < acts; act++) {
            String more = act < 3 ? wayOrWait(words, act) : allTimes(words, act - 3);
            if (!more.isEmpty()) {
                row.add(act);
                tryRows(left - 1, row, words + more);
                row.remove(row.size() - 1);
            }
        }
    }

    private boolean goesRight(String words) {
        KnifeTrade x = made.get();
        Check.tell(x, 0, words);
        return x.run(0, 1) == 0;
    }

    /** Empty, if it goes wrong. */
    private String wayOrWait(String words, int act) {
        String step = new String[] {"up;", "down;", "wait 1;"}[act];
        return goesRight(words + step) ? step : "";
    }

    /** Empty, if it can not be done even once. */
    private String allTimes(String words, int change) {
        String step = "";
        for (int times = 1; times <= 99; times++) {
            String more = "do " + change + " " + times + ";";
            if (!goesRight(words + more)) {
                return step;
            }
            step = more;
        }
        return step;
    }

    private static KnifeTrade river(int start, int each, int back, int most, int room) {
        KnifeTrade x = Rivers.plain(2, 3);
        x.put(4, 1);
        x.put(0, room);
        x.start(0, start);
        x.start(2, 3);
        x.change(0, 0, 1, 1, 1);
        x.change(0, 2, 1, 0, 2);
        x.moves(0, each, back, most);
        return x;
    }

    private static void tallies() {
        CHECK.about("promise 17, the TALLY goes on from act to act");
        for (int each = 0; each <= 9; each++) {
            for (int start = 1; start <= 6; start++) {
                int e = each;
                int s = start;
                new BestToldTest(() -> river(s, e, 0, 99, s + 4)).dueBest(3);
            }
        }
    }

    private static void times() {
        CHECK.about("promise 17, times done go on from act to act");
        for (int most = 0; most <= 6; most++) {
            int m = most;
            new BestToldTest(() -> river(3, 0, 0, m, 500)).dueBest(3);
            new BestToldTest(() -> river(2, 2, 0, m, 6)).dueBest(3);
        }
    }

    private static void days() {
        CHECK.about("promise 17, days go on from act to act");
        for (int back = 1; back <= 4; back++) {
            for (int each = 1; each <= 3; each++) {
                int b = back;
                int e = each;
                new BestToldTest(() -> river(5, e, b, 99, 500)).dueBest(3);
            }
        }
    }

    private static void rooms() {
        CHECK.about("promise 17, heavy none");
        for (int room = 5; room <= 9; room++) {
            int r = room;
            new BestToldTest(() -> river(4, 1, 0, 99, r)).dueBest(3);
        }
    }

    private static KnifeTrade twoLandings(int food, int ice, int post) {
        KnifeTrade x = Rivers.plain(2, 3);
        x.put(1, 1);
        x.start(0, 6);
        x.start(2, food);
        x.put(2, 2);
        x.put(3, ice);
        x.put(4, 1);
        x.put(5, post);
        x.change(1, 0, 1, 1, 2);
        x.moves(0, 2, 2, 5);
        x.greeting(1, 0, 1, 2, 2, 1);
        return x;
    }

    private static void landings() {
        CHECK.about("promise 17, ways between landings");
        for (int food = 1; food <= 4; food++) {
            for (int post = -1; post <= 1; post++) {
                int f = food;
                int p = post;
                new BestToldTest(() -> twoLandings(f, 4, p)).dueBest(4);
                new BestToldTest(() -> twoLandings(f, 3, p)).dueBest(4);
            }
        }
    }
}
