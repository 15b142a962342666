import java.math.BigInteger;
import java.util.ArrayList;
import java.util.Arrays;
import java.util.Collections;
import java.util.List;
import java.util.regex.Matcher;
import java.util.regex.Pattern;

/**
 * The document once more, in the dearest and plainest way: every row of acts and every row of
 * changes is tried, days pass one by one, texts are split by patterns. ModelTest asks it and the
 * program the same.
 */
final class Model {
    private static final int NONE = -1;

    static final class Change {
        int at;
        int x;
        int a;
        int y;
        int b;
        int each = 0;
        int back = 0;
        int most = 99;

        int[] told() {
            return new int[] {at, x, a, y, b, each, back, most};
        }
    }

    /** All that an image keeps. */
    static final class World {
        final List<int[]> landings = new ArrayList<>();
        final List<int[]> things = new ArrayList<>();
        final List<Change> changes = new ArrayList<>();
        int[] numbers = {100, 2, NONE, 100, 0, NONE};
        final String[] texts = {"", ""};

        World copied() {
            World w = new World();
            landings.forEach(l -> w.landings.add(l.clone()));
            things.forEach(t -> w.things.add(t.clone()));
            for (Change c : changes) {
                Change d = new Change();
                d.at = c.at;
                d.x = c.x;
                d.a = c.a;
                d.y = c.y;
                d.b = c.b;
                d.each = c.each;
                d.back = c.back;
                d.most = c.most;
                w.changes.add(d);
            }
            w.numbers = numbers.clone();
            w.texts[0] = texts[0];
            w.texts[1] = texts[1];
            return w;
        }
    }

    /** How the changes stand. */
    static final class Market {
        int[] m = new int[8];
        int[] tally = new int[8];
        int[] times = new int[8];

        Market copied() {
            Market o = new Market();
            o.m = m.clone();
            o.tally = tally.clone();
            o.times = times.clone();
            return o;
        }
    }

    /** Thrown by a step that goes wrong. */
    static final class Wrong extends Exception {
        private static final long serialVersionUID = 1;
        final int why;

        Wrong(int why) {
            this.why = why;
        }
    }

    static final class Trip {
        final World w;
        Market market;
        int[] has = new int[6];
        // what each landing owes: the day of giving; null: nothing
        Integer[] given = new Integer[6];
        int day = 0;
        int landing = 0;
        int right = 0;
        int why = 0;

        Trip(World w, Market market) {
            this.w = w;
            this.market = market;
            for (int i = 0; i < w.things.size(); i++) {
                has[i] = w.things.get(i)[2];
            }
        }

        Trip copied() {
            Trip t = new Trip(w, market.copied());
            t.has = has.clone();
            t.given = given.clone();
            t.day = day;
            t.landing = landing;
            return t;
        }

        void changesComeBack() {
            for (int k = 0; k < w.changes.size(); k++) {
                int back = w.changes.get(k).back;
                if (back != 0 && day % back == 0) {
                    market.m[k] = Math.max(0, market.m[k] - 1);
                }
            }
        }

        void dayPasses() throws Wrong {
            day += 1;
            for (int i = 0; i < w.things.size(); i++) {
                int gone = has[i] * w.things.get(i)[1] / 100;
                has[i] = has[i] - gone;
            }
            int hands = w.numbers[1];
            int food = w.numbers[2];
            if (food >= 0) {
                if (has[food] < hands) {
                    throw new Wrong(1);
                }
                has[food] -= hands;
            }
            if (day > w.numbers[3]) {
                throw new Wrong(2);
            }
            changesComeBack();
        }

        void lookHeavy() throws Wrong {
            int sum = 0;
            for (int i = 0; i < w.things.size(); i++) {
                sum += has[i] * w.things.get(i)[0];
            }
            if (sum > w.numbers[0]) {
                throw new Wrong(4);
            }
        }

        void arrive(int there) throws Wrong {
            landing = there;
            int[] l = w.landings.get(there);
            if (given[there] != null && day >= given[there] + l[6]) {
                has[l[4]] += l[5];
                given[there] = null;
            }
            if (has[l[2]] < l[3]) {
                throw new Wrong(3);
            }
            has[l[2]] -= l[3];
            given[there] = day;
            lookHeavy();
        }

        void up() throws Wrong {
            if (landing == w.landings.size() - 1) {
                throw new Wrong(6);
            }
            int doubled = 2 * w.landings.get(landing + 1)[0];
            int days = 0;
            while (days * w.numbers[1] < doubled) {
                days++;
            }
            for (int i = 0; i < days; i++) {
                dayPasses();
            }
            arrive(landing + 1);
        }

        void down() throws Wrong {
            if (landing == 0) {
                throw new Wrong(6);
            }
            for (int i = 0; i < w.landings.get(landing)[1]; i++) {
                dayPasses();
            }
            arrive(landing - 1);
        }

        void trade(int k) throws Wrong {
            if (k >= w.changes.size()) {
                throw new Wrong(5);
            }
            Change c = w.changes.get(k);
            if (c.at != landing || market.times[k] == c.most || has[c.x] < c.a + market.m[k]) {
                throw new Wrong(5);
            }
            has[c.x] -= c.a + market.m[k];
            has[c.y] += c.b;
            market.times[k]++;
            if (c.each > 0 && w.numbers[5] != c.at) {
                market.tally[k]++;
                if (market.tally[k] == c.each) {
                    market.tally[k] = 0;
                    market.m[k]++;
                }
            }
            lookHeavy();
        }

        void step(int[] s) throws Wrong {
            if (s[0] == 0) {
                up();
            } else if (s[0] == 1) {
                down();
            } else if (s[0] == 2) {
                for (int i = 0; i < s[2]; i++) {
                    dayPasses();
                }
            } else {
                for (int i = 0; i < s[2]; i++) {
                    trade(s[1]);
                }
            }
        }

        void go(List<int[]> steps) {
            try {
                for (int[] s : steps) {
                    step(s);
                    right++;
                }
            } catch (Wrong wrong) {
                why = wrong.why;
            }
        }

        int told(int what) {
            return new int[] {right, why, day, landing}[what];
        }

        /** What is there behind an act; null: it can not be. */
        Trip behind(int act) {
            Trip t = copied();
            try {
                if (act < 3) {
                    t.step(new int[] {act, 0, 1});
                    return t;
                }
            } catch (Wrong wrong) {
                return null;
            }
            boolean done = false;
            for (;;) {
                Trip next = t.copied();
                try {
                    next.trade(act - 3);
                } catch (Wrong wrong) {
                    return done ? t : null;
                }
                t = next;
                done = true;
            }
        }
    }

    private World w = new World();
    private final World[] images = new World[2];
    private long above = 0;
    private long below = 1;

    private static boolean in(int v, int from, int to) {
        return from <= v && v <= to;
    }

    private boolean isLanding(int i) {
        return in(i, 0, w.landings.size() - 1);
    }

    private boolean isThing(int i) {
        return in(i, 0, w.things.size() - 1);
    }

    private boolean isChange(int i) {
        return in(i, 0, w.changes.size() - 1);
    }

    int landing(int up, int down) {
        int n = w.landings.size();
        if (n > 0 && (!in(up, 1, 9) || !in(down, 1, 9))) {
            return -2;
        }
        if (n == 6) {
            return -4;
        }
        w.landings.add(new int[] {n == 0 ? 0 : up, n == 0 ? 0 : down, 0, 0, 0, 0, 0});
        return n;
    }

    int thing(int weight, int spoil) {
        if (!in(weight, 1, 20) || !in(spoil, 0, 50)) {
            return -2;
        }
        if (w.things.size() == 6) {
            return -4;
        }
        w.things.add(new int[] {weight, spoil, 0});
        return w.things.size() - 1;
    }

    int put(int what, int v) {
        if (!in(what, 0, 5)) {
            return -10;
        }
        int[] least = {1, 1, NONE, 1, 0, NONE};
        int[] most = {500, 6, w.things.size() - 1, 400, 5, w.landings.size() - 1};
        if (!in(v, least[what], most[what])) {
            return -10;
        }
        int old = w.numbers[what];
        w.numbers[what] = v;
        return old;
    }

    int change(int landing, int x, int a, int y, int b) {
        if (!isLanding(landing) || !isThing(x) || !isThing(y) || x == y || !in(a, 1, 20)
                || !in(b, 1, 20)) {
            return -2;
        }
        if (w.changes.size() == 8) {
            return -4;
        }
        Change c = new Change();
        c.at = landing;
        c.x = x;
        c.a = a;
        c.y = y;
        c.b = b;
        w.changes.add(c);
        return w.changes.size() - 1;
    }

    int moves(int change, int each, int back, int most) {
        if (!isChange(change) || !in(each, 0, 9) || !in(back, 0, 30) || !in(most, 0, 99)) {
            return -2;
        }
        Change c = w.changes.get(change);
        c.each = each;
        c.back = back;
        c.most = most;
        return 1;
    }

    int greeting(int landing, int x, int n, int y, int m, int days) {
        if (!isLanding(landing) || !isThing(x) || !in(n, 0, 20) || !isThing(y) || !in(m, 0, 40)
                || !in(days, 0, 90)) {
            return -2;
        }
        int[] l = w.landings.get(landing);
        System.arraycopy(new int[] {x, n, y, m, days}, 0, l, 2, 5);
        return 1;
    }

    int start(int thing, int n) {
        if (!isThing(thing) || !in(n, 0, 99)) {
            return -2;
        }
        int old = w.things.get(thing)[2];
        w.things.get(thing)[2] = n;
        return old;
    }

    int type(int text, long v, int n) {
        if (!in(text, 0, 1) || !in(n, 1, 8)) {
            return -2;
        }
        if (w.texts[text].length() + n > 160) {
            return -4;
        }
        StringBuilder come = new StringBuilder();
        long rest = v;
        for (int i = 0; i < n; i++) {
            come.insert(0, (char) (rest & 0xff));
            rest >>= 8;
        }
        w.texts[text] += come;
        return w.texts[text].length();
    }

    int clear(int text) {
        if (!in(text, 0, 1)) {
            return -2;
        }
        int old = w.texts[text].length();
        w.texts[text] = "";
        return old;
    }

    private static final Pattern TOKEN = Pattern.compile("[a-z]+|[0-9]+|[^ ]", Pattern.DOTALL);
    private static final Pattern[][] FORMS = {
        {Pattern.compile("up"), Pattern.compile(";")},
        {Pattern.compile("down"), Pattern.compile(";")},
        {Pattern.compile("wait"), Pattern.compile("[1-9]|0[1-9]|[1-9][0-9]"), Pattern.compile(";")},
        {Pattern.compile("do"), Pattern.compile("[0-9]{1,2}"),
            Pattern.compile("[1-9]|0[1-9]|[1-9][0-9]"), Pattern.compile(";")},
    };

    /** The steps of a text, each a kind, a change and times; its fault comes into place[0]. */
    private static List<int[]> steps(String text, int[] place) {
        List<int[]> steps = new ArrayList<>();
        List<String> begun = new ArrayList<>();
        int kind = NONE;
        Matcher m = TOKEN.matcher(text);
        while (m.find()) {
            String token = m.group();
            if (begun.isEmpty()) {
                kind = Arrays.asList("up", "down", "wait", "do").indexOf(token);
            }
            if (kind < 0 || !FORMS[kind][begun.size()].matcher(token).matches()) {
                place[0] = m.start();
                return steps;
            }
            begun.add(token);
            if (begun.size() == FORMS[kind].length) {
                int k = kind == 3 ? Integer.parseInt(begun.get(1)) : 0;
                int n = kind >= 2 ? Integer.parseInt(begun.get(kind - 1)) : 1;
                steps.add(new int[] {kind, k, n});
                begun.clear();
            }
        }
        place[0] = begun.isEmpty() ? NONE : text.length();
        return steps;
    }

    int fault(int text) {
        if (!in(text, 0, 1)) {
            return -2;
        }
        int[] place = new int[1];
        steps(w.texts[text], place);
        return place[0];
    }

    private Trip voyage(int text, Market market) {
        int[] place = new int[1];
        List<int[]> steps = steps(w.texts[text], place);
        if (place[0] != NONE || w.landings.isEmpty()) {
            return null;
        }
        Trip trip = new Trip(w, market);
        trip.go(steps);
        return trip;
    }

    int run(int text, int what) {
        if (!in(text, 0, 1) || !in(what, 0, 3)) {
            return -2;
        }
        Trip trip = voyage(text, new Market());
        return trip == null ? -3 : trip.told(what);
    }

    int load(int text, int thing) {
        if (!in(text, 0, 1) || !isThing(thing)) {
            return -2;
        }
        Trip trip = voyage(text, new Market());
        return trip == null ? -3 : trip.has[thing];
    }

    int rival(int days, int what) {
        if (!in(days, 0, 99) || !in(what, 0, 3 + w.things.size())) {
            return -2;
        }
        if (fault(0) != NONE || fault(1) != NONE || w.landings.isEmpty()) {
            return -3;
        }
        Trip ahead = voyage(1, new Market());
        for (int i = 0; i < days; i++) {
            ahead.day++;
            ahead.changesComeBack();
        }
        Trip own = voyage(0, ahead.market);
        return what < 4 ? own.told(what) : own.has[what - 4];
    }

    /** All rows of unlike changes that are rings of unlike things. */
    private List<List<Integer>> rings() {
        List<List<Integer>> rings = new ArrayList<>();
        grow(new ArrayList<>(), rings);
        return rings;
    }

    private void grow(List<Integer> row, List<List<Integer>> rings) {
        if (isRing(row)) {
            rings.add(new ArrayList<>(row));
        }
        for (int k = 0; k < w.changes.size(); k++) {
            boolean goesOn = row.isEmpty()
                    || w.changes.get(row.get(row.size() - 1)).y == w.changes.get(k).x;
            if (goesOn && !row.contains(k)) {
                row.add(k);
                grow(row, rings);
                row.remove(row.size() - 1);
            }
        }
    }

    private boolean isRing(List<Integer> row) {
        if (row.isEmpty()) {
            return false;
        }
        long unlike = row.stream().map(k -> w.changes.get(k).x).distinct().count();
        boolean closed = w.changes.get(row.get(row.size() - 1)).y == w.changes.get(row.get(0)).x;
        return closed && unlike == row.size() && row.get(0).equals(Collections.min(row));
    }

    private BigInteger[] gain(List<Integer> row) {
        BigInteger[] gain = {BigInteger.ONE, BigInteger.ONE};
        for (int k : row) {
            gain[0] = gain[0].multiply(BigInteger.valueOf(w.changes.get(k).b));
            gain[1] = gain[1].multiply(BigInteger.valueOf(w.changes.get(k).a));
        }
        return gain;
    }

    private static int compared(BigInteger[] one, BigInteger[] other) {
        return one[0].multiply(other[1]).compareTo(other[0].multiply(one[1]));
    }

    private static int comparedRows(List<Integer> one, List<Integer> other) {
        for (int i = 0; i < Math.min(one.size(), other.size()); i++) {
            if (!one.get(i).equals(other.get(i))) {
                return one.get(i) - other.get(i);
            }
        }
        return one.size() - other.size();
    }

    private List<Integer> bestRing() {
        List<Integer> best = null;
        for (List<Integer> ring : rings()) {
            if (best == null) {
                best = ring;
                continue;
            }
            int better = compared(gain(ring), gain(best));
            if (better == 0) {
                better = best.size() - ring.size();
            }
            if (better == 0) {
                better = comparedRows(best, ring);
            }
            if (better > 0) {
                best = ring;
            }
        }
        return best;
    }

    private void keep(BigInteger[] fraction) {
        BigInteger common = fraction[0].gcd(fraction[1]);
        above = fraction[0].divide(common).longValueExact();
        below = fraction[1].divide(common).longValueExact();
    }

    int ring(int what) {
        if (what < -1) {
            return -10;
        }
        List<Integer> best = bestRing();
        if (best == null || what >= best.size()) {
            return -5;
        }
        if (what >= 0) {
            return best.get(what);
        }
        keep(gain(best));
        return best.size();
    }

    int price(int thing) {
        if (!isThing(thing)) {
            return -2;
        }
        List<Integer> best = bestRing();
        BigInteger[] one = {BigInteger.ONE, BigInteger.ONE};
        if (best != null && compared(gain(best), one) > 0 || !isThing(w.numbers[4])) {
            return -3;
        }
        BigInteger[] price = {BigInteger.ZERO, BigInteger.ONE};
        List<List<Integer>> ways = new ArrayList<>();
        growWays(thing, new ArrayList<>(), ways);
        for (List<Integer> way : ways) {
            if (compared(gain(way), price) > 0) {
                price = gain(way);
            }
        }
        keep(price);
        return 1;
    }

    /** All rows of unlike changes from a thing to home. */
    private void growWays(int thing, List<Integer> row, List<List<Integer>> ways) {
        if (thing == w.numbers[4]) {
            ways.add(new ArrayList<>(row));
        }
        for (int k = 0; k < w.changes.size(); k++) {
            if (w.changes.get(k).x == thing && !row.contains(k)) {
                row.add(k);
                growWays(w.changes.get(k).y, row, ways);
                row.remove(row.size() - 1);
            }
        }
    }

    private boolean canSeek() {
        return !w.landings.isEmpty() && isThing(w.numbers[4]);
    }

    private int bestHome;
    private List<Integer> bestActs;

    /** Tries every row of acts of each length, the short ones first. */
    private int seek(World world, int n) {
        bestHome = NONE;
        bestActs = null;
        for (int length = 0; length <= n; length++) {
            tryRows(new Trip(world, new Market()), length, new ArrayList<>());
        }
        return bestHome;
    }

    private void tryRows(Trip trip, int left, List<Integer> row) {
        if (left == 0) {
            int home = trip.has[w.numbers[4]];
            if (trip.landing == 0 && home > bestHome) {
                bestHome = home;
                bestActs = new ArrayList<>(row);
            }
            return;
        }
        for (int act = 0; act < 3 + w.changes.size(); act++) {
            Trip next = trip.behind(act);
            if (next != null) {
                row.add(act);
                tryRows(next, left - 1, row);
                row.remove(row.size() - 1);
            }
        }
    }

    int best(int n, int what) {
        if (!in(n, 0, 4) || !in(what, -1, 4)) {
            return -10;
        }
        if (!canSeek()) {
            return -20;
        }
        seek(w, n);
        if (what == -1) {
            return bestHome;
        }
        if (what == 4) {
            return bestActs.size();
        }
        return what < bestActs.size() ? bestActs.get(what) : -5;
    }

    private int homeWith(int thing, int more, int n) {
        World other = w.copied();
        other.things.get(thing)[2] += more;
        return seek(other, n);
    }

    int worth(int thing, int n) {
        if (!isThing(thing) || !in(n, 0, 4)) {
            return -1000;
        }
        return canSeek() ? homeWith(thing, 1, n) - seek(w, n) : -2000;
    }

    int lack(int n) {
        if (!in(n, 0, 4)) {
            return -2;
        }
        if (!canSeek()) {
            return -3;
        }
        int lack = NONE;
        int most = Integer.MIN_VALUE;
        for (int i = 0; i < w.things.size(); i++) {
            if (w.things.get(i)[2] >= 1) {
                int falls = seek(w, n) - homeWith(i, -1, n);
                if (falls > most) {
                    most = falls;
                    lack = i;
                }
            }
        }
        return lack;
    }

    private int bestNumber(int what, int from, int to, int n) {
        if (!in(n, 0, 4)) {
            return -2;
        }
        if (!canSeek()) {
            return -3;
        }
        int best = NONE;
        int most = NONE;
        for (int v = from; v <= to; v++) {
            World other = w.copied();
            other.numbers[what] = v;
            int home = seek(other, n);
            if (home > most) {
                most = home;
                best = v;
            }
        }
        return best;
    }

    int crew(int n) {
        return bestNumber(1, 1, 6, n);
    }

    int where(int n) {
        return bestNumber(5, 0, w.landings.size() - 1, n);
    }

    int latest(int landing) {
        if (!isLanding(landing)) {
            return -2;
        }
        for (int day = 400; day >= 0; day--) {
            int end = day;
            for (int i = landing; i > 0; i--) {
                end += w.landings.get(i)[1];
            }
            if (end <= w.numbers[3]) {
                return day;
            }
        }
        return NONE;
    }

    private int movedBehind(Change c, int times) {
        int m = 0;
        int tally = 0;
        for (int i = 0; i < times; i++) {
            if (c.each > 0 && c.at != w.numbers[5] && ++tally == c.each) {
                tally = 0;
                m++;
            }
        }
        return m;
    }

    int rate(int change, int times, int days) {
        if (!isChange(change) || !in(times, 0, 99) || !in(days, 0, 999)) {
            return -2;
        }
        Change c = w.changes.get(change);
        int m = movedBehind(c, times);
        for (int day = 1; day <= days; day++) {
            if (c.back > 0 && day % c.back == 0 && m > 0) {
                m--;
            }
        }
        return c.a + m;
    }

    int waits(int change, int times) {
        if (!isChange(change) || !in(times, 0, 99)) {
            return -2;
        }
        for (int days = 0; days <= 999; days++) {
            if (rate(change, times, days) == w.changes.get(change).a) {
                return days;
            }
        }
        return NONE;
    }

    long part(int what) {
        return what == 0 ? above : what == 1 ? below : -1;
    }

    int image(int i) {
        if (!in(i, 0, 1)) {
            return -2;
        }
        images[i] = w.copied();
        return 1;
    }

    int from(int i) {
        if (!in(i, 0, 1)) {
            return -2;
        }
        if (images[i] == null) {
            return -3;
        }
        w = images[i].copied();
        return 1;
    }

    int count(int what) {
        if (!in(what, 0, 4)) {
            return -2;
        }
        return new int[] {w.landings.size(), w.things.size(), w.changes.size(),
            w.texts[0].length(), w.texts[1].length()}[what];
    }

    long digest() {
        List<Long> values = new ArrayList<>();
        for (int what = 0; what <= 4; what++) {
            values.add((long) count(what));
        }
        w.landings.forEach(l -> addAll(values, l));
        w.things.forEach(t -> addAll(values, t));
        addAll(values, w.numbers);
        w.changes.forEach(c -> addAll(values, c.told()));
        addAll(values, w.texts[0].chars().toArray());
        addAll(values, w.texts[1].chars().toArray());
        values.add(above);
        values.add(below);
        long h = 499;
        for (long v : values) {
            h = 31 * h + v;
        }
        return h;
    }

    private static void addAll(List<Long> values, int[] more) {
        for (int v : more) {
            values.add((long) v);
        }
    }
}
