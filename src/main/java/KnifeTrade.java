import java.util.Arrays;

/**
 * What a knife is worth upriver: landings, things and changes of one for another, voyages told by
 * texts, rings of changes, and the best voyage of few acts.
 */
public final class KnifeTrade {
    public static final int NONE = -1, BAD = -2, NO = -3, FULL = -4;

    private static final int MOST_LANDINGS = 6, MOST_THINGS = 6, MOST_CHANGES = 8;
    private static final int TEXTS = 2, MOST_BYTES = 160, IMAGES = 2;
    private static final int MOST_TIMES = 99, MOST_DAYS = 999, MOST_ACTS = 4, MOST_HANDS = 6;
    // The shortest step is "up;".
    private static final int MOST_STEPS = MOST_BYTES / 3 + 1;

    // The numbers, as put() names them.
    private static final int ROOM = 0, HANDS = 1, FOOD = 2, ICE = 3, HOME = 4, POST = 5, NUMBERS = 6;

    // What stands where in a landing's, a thing's and a change's row: the order of digest().
    private static final int UP_DAYS = 0, DOWN_DAYS = 1, GIFT = 2, GIFTS = 3, RETURN = 4, RETURNS = 5,
            RETURN_DAYS = 6, LANDING_WIDTH = 7;
    private static final int WEIGHT = 0, SPOIL = 1, START = 2, THING_WIDTH = 3;
    private static final int AT = 0, X = 1, A = 2, Y = 3, B = 4, EACH = 5, BACK = 6, MOST = 7,
            CHANGE_WIDTH = 8;

    // Steps of a voyage and acts of the best one; an act DO + k is change k.
    private static final int UP = 0, DOWN = 1, WAIT = 2, DO = 3;

    // By what a step is wrong.
    private static final int HUNGRY = 1, FROZEN = 2, UNWELCOME = 3, HEAVY = 4, NOT_DONE = 5,
            NO_LANDING = 6;

    private static final int NOT_SO_MANY = -5, BAD_NUMBER = -10, NO_BEST = -20;
    private static final int BAD_WORTH = -1000, NO_WORTH = -2000;

    private final River river;
    private final River[] images;
    private final boolean[] kept;
    private final Steps[] steps;
    private final Voyage voyage;
    private final Search search;
    private final Rings rings;
    private final Fraction fraction;

    public KnifeTrade() {
        River told = new River();
        river = told;
        images = new River[] {new River(), new River()};
        kept = new boolean[IMAGES];
        steps = new Steps[] {new Steps(), new Steps()};
        voyage = new Voyage(told);
        search = new Search(told);
        rings = new Rings(told.changes);
        fraction = new Fraction();
    }

    // ---- rivers

    public int landing(int up, int down) {
        Table landings = river.landings;
        boolean first = landings.size == 0;
        if (!first && !(within(up, 1, 9) && within(down, 1, 9))) {
            return BAD;
        }
        if (landings.isFull()) {
            return FULL;
        }
        int number = landings.add();
        if (!first) {
            landings.rows[number][UP_DAYS] = up;
            landings.rows[number][DOWN_DAYS] = down;
        }
        return number;
    }

    public int thing(int weight, int spoil) {
        Table things = river.things;
        if (!within(weight, 1, 20) || !within(spoil, 0, 50)) {
            return BAD;
        }
        if (things.isFull()) {
            return FULL;
        }
        int number = things.add();
        things.rows[number][WEIGHT] = weight;
        things.rows[number][SPOIL] = spoil;
        return number;
    }

    public int put(int what, int v) {
        if (!mayPut(what, v)) {
            return BAD_NUMBER;
        }
        int old = river.numbers[what];
        river.numbers[what] = v;
        return old;
    }

    private boolean mayPut(int what, int v) {
        switch (what) {
            case ROOM:
                return within(v, 1, 500);
            case HANDS:
                return within(v, 1, MOST_HANDS);
            case FOOD:
                return v == NONE || river.things.has(v);
            case ICE:
                return within(v, 1, 400);
            case HOME:
                return within(v, 0, MOST_THINGS - 1);
            case POST:
                return v == NONE || river.landings.has(v);
            default:
                return false;
        }
    }

    public int change(int landing, int x, int a, int y, int b) {
        Table changes = river.changes;
        if (!river.landings.has(landing) || !river.things.has(x) || !river.things.has(y) || x == y) {
            return BAD;
        }
        if (!within(a, 1, 20) || !within(b, 1, 20)) {
            return BAD;
        }
        if (changes.isFull()) {
            return FULL;
        }
        int number = changes.add();
        int[] row = changes.rows[number];
        row[AT] = landing;
        row[X] = x;
        row[A] = a;
        row[Y] = y;
        row[B] = b;
        row[MOST] = MOST_TIMES;
        return number;
    }

    public int moves(int change, int each, int back, int most) {
        if (!river.changes.has(change) || !within(each, 0, 9) || !within(back, 0, 30)
                || !within(most, 0, MOST_TIMES)) {
            return BAD;
        }
        int[] row = river.changes.rows[change];
        row[EACH] = each;
        row[BACK] = back;
        row[MOST] = most;
        return 1;
    }

    public int greeting(int landing, int x, int n, int y, int m, int days) {
        if (!river.landings.has(landing) || !river.things.has(x) || !river.things.has(y)) {
            return BAD;
        }
        if (!within(n, 0, 20) || !within(m, 0, 40) || !within(days, 0, 90)) {
            return BAD;
        }
        int[] row = river.landings.rows[landing];
        row[GIFT] = x;
        row[GIFTS] = n;
        row[RETURN] = y;
        row[RETURNS] = m;
        row[RETURN_DAYS] = days;
        return 1;
    }

    public int start(int thing, int n) {
        if (!river.things.has(thing) || !within(n, 0, 99)) {
            return BAD;
        }
        int[] row = river.things.rows[thing];
        int old = row[START];
        row[START] = n;
        return old;
    }

    // ---- voyages

    public int type(int text, long v, int n) {
        if (!isText(text) || !within(n, 1, 8)) {
            return BAD;
        }
        Text told = river.texts[text];
        if (told.length + n > MOST_BYTES) {
            return FULL;
        }
        told.add(v, n);
        return told.length;
    }

    public int clear(int text) {
        if (!isText(text)) {
            return BAD;
        }
        int old = river.texts[text].length;
        river.texts[text].length = 0;
        return old;
    }

    public int fault(int text) {
        return isText(text) ? steps[text].read(river.texts[text]) : BAD;
    }

    public int run(int text, int what) {
        if (!isText(text) || !within(what, 0, 3)) {
            return BAD;
        }
        return sail(text) ? ending(what) : NO;
    }

    public int load(int text, int thing) {
        if (!isText(text) || !river.things.has(thing)) {
            return BAD;
        }
        return sail(text) ? voyage.loads[thing] : NO;
    }

    public int rival(int days, int what) {
        int thing = what - 4;
        if (!within(days, 0, 99) || !(within(what, 0, 3) || river.things.has(thing))) {
            return BAD;
        }
        if (!isVoyage(0) || !sail(1)) {
            return NO;
        }
        voyage.passForChanges(days);
        voyage.depart();
        voyage.follow(steps[0]);
        return thing < 0 ? ending(what) : voyage.loads[thing];
    }

    private static boolean isText(int text) {
        return within(text, 0, TEXTS - 1);
    }

    private boolean isVoyage(int text) {
        return river.landings.size > 0 && steps[text].read(river.texts[text]) == NONE;
    }

    /** Goes the voyage of a text from the first day on; false: it tells none. */
    private boolean sail(int text) {
        if (!isVoyage(text)) {
            return false;
        }
        voyage.unmove();
        voyage.depart();
        voyage.follow(steps[text]);
        return true;
    }

    private int ending(int what) {
        switch (what) {
            case 0:
                return voyage.right;
            case 1:
                return voyage.wrong;
            case 2:
                return voyage.day;
            default:
                return voyage.landing;
        }
    }

    // ---- rings, prices

    public int ring(int what) {
        if (what < NONE) {
            return BAD_NUMBER;
        }
        rings.seekBest();
        if (rings.size == 0 || what >= rings.size) {
            return NOT_SO_MANY;
        }
        if (what >= 0) {
            return rings.best[what];
        }
        fraction.set(rings.above, rings.below);
        return rings.size;
    }

    public int price(int thing) {
        if (!river.things.has(thing)) {
            return BAD;
        }
        int home = river.numbers[HOME];
        rings.seekBest();
        if (rings.gains() || !river.things.has(home)) {
            return NO;
        }
        rings.findPrices(home);
        fraction.set(rings.priceAbove[thing], rings.priceBelow[thing]);
        return 1;
    }

    // ---- what is best

    public int best(int n, int what) {
        if (!isActs(n) || !within(what, NONE, MOST_ACTS)) {
            return BAD_NUMBER;
        }
        if (!canSeek()) {
            return NO_BEST;
        }
        int home = search.mostHome(n);
        if (what == NONE) {
            return home;
        }
        if (what == MOST_ACTS) {
            return search.size;
        }
        return what < search.size ? search.best[what] : NOT_SO_MANY;
    }

    public int worth(int thing, int n) {
        if (!river.things.has(thing) || !isActs(n)) {
            return BAD_WORTH;
        }
        if (!canSeek()) {
            return NO_WORTH;
        }
        return homeWith(thing, 1, n) - search.mostHome(n);
    }

    public int lack(int n) {
        if (!isActs(n)) {
            return BAD;
        }
        if (!canSeek()) {
            return NO;
        }
        // It falls most where the least is left.
        int lack = NONE;
        int least = 0;
        for (int i = 0; i < river.things.size; i++) {
            if (river.things.rows[i][START] > 0) {
                int home = homeWith(i, -1, n);
                if (lack == NONE || home < least) {
                    lack = i;
                    least = home;
                }
            }
        }
        return lack;
    }

    public int crew(int n) {
        return bestNumber(HANDS, 1, MOST_HANDS, n);
    }

    public int where(int n) {
        return bestNumber(POST, 0, river.landings.size - 1, n);
    }

    public int latest(int landing) {
        if (!river.landings.has(landing)) {
            return BAD;
        }
        int day = river.numbers[ICE];
        for (int i = 1; i <= landing; i++) {
            day -= river.landings.rows[i][DOWN_DAYS];
        }
        return day < 0 ? NONE : day;
    }

    public int rate(int change, int times, int days) {
        if (!river.changes.has(change) || !within(times, 0, MOST_TIMES)
                || !within(days, 0, MOST_DAYS)) {
            return BAD;
        }
        int[] row = river.changes.rows[change];
        int moved = movedBehind(row, times);
        if (row[BACK] > 0) {
            moved = Math.max(0, moved - days / row[BACK]);
        }
        return row[A] + moved;
    }

    public int waits(int change, int times) {
        if (!river.changes.has(change) || !within(times, 0, MOST_TIMES)) {
            return BAD;
        }
        int[] row = river.changes.rows[change];
        int moved = movedBehind(row, times);
        int days = moved * row[BACK];
        boolean never = moved > 0 && row[BACK] == 0;
        return never || days > MOST_DAYS ? NONE : days;
    }

    private static boolean isActs(int n) {
        return within(n, 0, MOST_ACTS);
    }

    private boolean canSeek() {
        return river.landings.size > 0 && river.things.has(river.numbers[HOME]);
    }

    /** Home by the best voyage with so many more of a thing at the start. */
    private int homeWith(int thing, int more, int n) {
        int[] row = river.things.rows[thing];
        row[START] += more;
        int home = search.mostHome(n);
        row[START] -= more;
        return home;
    }

    /** The least of these values of a number with the most home. */
    private int bestNumber(int what, int from, int to, int n) {
        if (!isActs(n)) {
            return BAD;
        }
        if (!canSeek()) {
            return NO;
        }
        int old = river.numbers[what];
        int best = from;
        int most = NONE;
        for (int v = from; v <= to; v++) {
            river.numbers[what] = v;
            int home = search.mostHome(n);
            if (home > most) {
                best = v;
                most = home;
            }
        }
        river.numbers[what] = old;
        return best;
    }

    private int movedBehind(int[] change, int times) {
        return river.staysPut(change) || change[EACH] < 1 ? 0 : times / change[EACH];
    }

    // ---- what there is

    public long part(int what) {
        switch (what) {
            case 0:
                return fraction.above;
            case 1:
                return fraction.below;
            default:
                return -1;
        }
    }

    public int image(int i) {
        if (!isImage(i)) {
            return BAD;
        }
        images[i].copy(river);
        kept[i] = true;
        return 1;
    }

    public int from(int i) {
        if (!isImage(i)) {
            return BAD;
        }
        if (!kept[i]) {
            return NO;
        }
        river.copy(images[i]);
        return 1;
    }

    public int count(int what) {
        switch (what) {
            case 0:
                return river.landings.size;
            case 1:
                return river.things.size;
            case 2:
                return river.changes.size;
            case 3:
                return river.texts[0].length;
            case 4:
                return river.texts[1].length;
            default:
                return BAD;
        }
    }

    public long digest() {
        long h = 499;
        for (int what = 0; what <= 4; what++) {
            h = 31 * h + count(what);
        }
        h = river.mix(h);
        h = 31 * h + fraction.above;
        return 31 * h + fraction.below;
    }

    private static boolean isImage(int i) {
        return within(i, 0, IMAGES - 1);
    }

    private static boolean within(int v, int least, int most) {
        return v >= least && v <= most;
    }

    private static long mixAll(long h, int[] values, int size) {
        long mixed = h;
        for (int i = 0; i < size && i < values.length; i++) {
            mixed = 31 * mixed + values[i];
        }
        return mixed;
    }

    /** Rows of numbers, as they came. */
    private static final class Table {
        final int[][] rows;
        final int width;
        int size;

        Table(int most, int width) {
            rows = new int[most][width];
            this.width = width;
        }

        boolean has(int i) {
            return i >= 0 && i < size;
        }

        boolean isFull() {
            return size >= rows.length;
        }

        /** The number of a new row; only while it is not full. */
        int add() {
            // An image may have left old numbers behind the last row.
            Arrays.fill(rows[size], 0);
            size++;
            return size - 1;
        }

        void copy(Table other) {
            size = other.size;
            for (int i = 0; i < size; i++) {
                System.arraycopy(other.rows[i], 0, rows[i], 0, width);
            }
        }

        long mix(long h) {
            long mixed = h;
            for (int i = 0; i < size; i++) {
                mixed = mixAll(mixed, rows[i], width);
            }
            return mixed;
        }
    }

    /** The bytes that tell a voyage. */
    private static final class Text {
        final int[] bytes = new int[MOST_BYTES];
        int length;

        /** The lowest n bytes of v, the highest first; only while there is place for them. */
        void add(long v, int n) {
            for (int i = n - 1; i >= 0; i--) {
                bytes[length] = (int) (v >>> (8 * i)) & 255;
                length++;
            }
        }

        void copy(Text other) {
            length = other.length;
            System.arraycopy(other.bytes, 0, bytes, 0, length);
        }

        boolean isBlank(int at) {
            return bytes[at] == ' ';
        }

        boolean isLetter(int at) {
            return bytes[at] >= 'a' && bytes[at] <= 'z';
        }

        boolean isFigure(int at) {
            return bytes[at] >= '0' && bytes[at] <= '9';
        }

        int blanksEnd(int at) {
            int end = at;
            while (end < length && isBlank(end)) {
                end++;
            }
            return end;
        }

        /** Where the token that begins at this place ends; a byte that begins none stands alone. */
        int tokenEnd(int at) {
            int end = at + 1;
            if (isLetter(at)) {
                while (end < length && isLetter(end)) {
                    end++;
                }
            } else if (isFigure(at)) {
                while (end < length && isFigure(end)) {
                    end++;
                }
            }
            return end;
        }

        boolean spells(int at, int end, String word) {
            if (end - at != word.length()) {
                return false;
            }
            for (int i = 0; i < word.length(); i++) {
                if (bytes[at + i] != word.charAt(i)) {
                    return false;
                }
            }
            return true;
        }

        /** The number of one or two figures; NONE: it is no such number. */
        int number(int at, int end) {
            if (!isFigure(at) || end - at > 2) {
                return NONE;
            }
            int value = 0;
            for (int i = at; i < end; i++) {
                value = 10 * value + bytes[i] - '0';
            }
            return value;
        }
    }

    /** All that was told: what an image keeps. */
    private static final class River {
        final Table landings = new Table(MOST_LANDINGS, LANDING_WIDTH);
        final Table things = new Table(MOST_THINGS, THING_WIDTH);
        final Table changes = new Table(MOST_CHANGES, CHANGE_WIDTH);
        final int[] numbers = {100, 2, NONE, 100, 0, NONE};
        final Text[] texts = {new Text(), new Text()};

        void copy(River other) {
            landings.copy(other.landings);
            things.copy(other.things);
            changes.copy(other.changes);
            System.arraycopy(other.numbers, 0, numbers, 0, NUMBERS);
            for (int i = 0; i < TEXTS; i++) {
                texts[i].copy(other.texts[i]);
            }
        }

        long mix(long h) {
            long mixed = things.mix(landings.mix(h));
            mixed = changes.mix(mixAll(mixed, numbers, NUMBERS));
            for (int i = 0; i < TEXTS; i++) {
                mixed = mixAll(mixed, texts[i].bytes, texts[i].length);
            }
            return mixed;
        }

        /** Whether trading does not move a change: at the post it never does. */
        boolean staysPut(int[] change) {
            return change[EACH] == 0 || change[AT] == numbers[POST];
        }
    }

    /** The steps that a text tells. */
    private static final class Steps {
        // What may stand next; NOTHING: the token that was there can not.
        private static final int WORD = 0, CHANGE = 1, TIMES = 2, END = 3, NOTHING = 4;

        final int[] kinds = new int[MOST_STEPS];
        // Only where the step's kind has a number there: old ones stay behind up and down.
        final int[] changes = new int[MOST_STEPS];
        final int[] times = new int[MOST_STEPS];
        int size;

        /** Reads a text: its fault; NONE: it has none. */
        int read(Text text) {
            size = 0;
            int next = WORD;
            int at = text.blanksEnd(0);
            for (int tokens = 0; tokens < MOST_BYTES && at < text.length; tokens++) {
                int end = text.tokenEnd(at);
                next = behind(text, at, end, next);
                if (next == NOTHING) {
                    return at;
                }
                at = text.blanksEnd(end);
            }
            return next == WORD ? NONE : text.length;
        }

        /** Takes a token where this may stand: what may stand behind it. */
        private int behind(Text text, int at, int end, int next) {
            if (size >= MOST_STEPS) {
                return NOTHING;
            }
            if (next == WORD) {
                return behindWord(text, at, end);
            }
            if (next == END) {
                size++;
                return text.spells(at, end, ";") ? WORD : NOTHING;
            }
            int number = text.number(at, end);
            if (next == CHANGE) {
                changes[size] = number;
                return number >= 0 ? TIMES : NOTHING;
            }
            times[size] = number;
            return number >= 1 ? END : NOTHING;
        }

        private int behindWord(Text text, int at, int end) {
            if (text.spells(at, end, "up")) {
                kinds[size] = UP;
                return END;
            }
            if (text.spells(at, end, "down")) {
                kinds[size] = DOWN;
                return END;
            }
            if (text.spells(at, end, "wait")) {
                kinds[size] = WAIT;
                return TIMES;
            }
            kinds[size] = DO;
            return text.spells(at, end, "do") ? CHANGE : NOTHING;
        }
    }

    /** A boat under way: where it is, what it has, and how the changes stand. */
    private static final class Voyage {
        final River river;
        final int[] loads = new int[MOST_THINGS];
        // The day from which a landing owes for its greeting; NONE: it owes nothing.
        final int[] owedFrom = new int[MOST_LANDINGS];
        final int[] moved = new int[MOST_CHANGES];
        final int[] tally = new int[MOST_CHANGES];
        final int[] times = new int[MOST_CHANGES];
        int landing;
        int day;
        int wrong;
        int right;

        Voyage(River river) {
            this.river = river;
        }

        void unmove() {
            Arrays.fill(moved, 0);
            Arrays.fill(tally, 0);
            Arrays.fill(times, 0);
        }

        /** Begins at landing 0 on day 0, with the changes as they stand. */
        void depart() {
            for (int i = 0; i < MOST_THINGS; i++) {
                loads[i] = river.things.has(i) ? river.things.rows[i][START] : 0;
            }
            Arrays.fill(owedFrom, NONE);
            landing = 0;
            day = 0;
            wrong = 0;
            right = 0;
        }

        void copy(Voyage other) {
            System.arraycopy(other.loads, 0, loads, 0, MOST_THINGS);
            System.arraycopy(other.owedFrom, 0, owedFrom, 0, MOST_LANDINGS);
            System.arraycopy(other.moved, 0, moved, 0, MOST_CHANGES);
            System.arraycopy(other.tally, 0, tally, 0, MOST_CHANGES);
            System.arraycopy(other.times, 0, times, 0, MOST_CHANGES);
            landing = other.landing;
            day = other.day;
            wrong = other.wrong;
            right = other.right;
        }

        void follow(Steps steps) {
            for (int i = 0; i < steps.size && wrong == 0; i++) {
                step(steps.kinds[i], steps.changes[i], steps.times[i]);
                if (wrong == 0) {
                    right++;
                }
            }
        }

        private void step(int kind, int change, int n) {
            if (kind == UP) {
                goUp();
            } else if (kind == DOWN) {
                goDown();
            } else if (kind == WAIT) {
                pass(n);
            } else {
                doTimes(change, n);
            }
        }

        void goUp() {
            int next = landing + 1;
            if (!river.landings.has(next)) {
                wrong = NO_LANDING;
                return;
            }
            int hands = Math.max(1, river.numbers[HANDS]);
            int days = (river.landings.rows[next][UP_DAYS] * 2 + hands - 1) / hands;
            pass(Math.max(1, days));
            arrive(next);
        }

        void goDown() {
            if (landing < 1 || !river.landings.has(landing)) {
                wrong = NO_LANDING;
                return;
            }
            pass(river.landings.rows[landing][DOWN_DAYS]);
            arrive(landing - 1);
        }

        void pass(int days) {
            for (int i = 0; i < days && wrong == 0; i++) {
                day++;
                spoil();
                eat();
                if (wrong == 0 && day > river.numbers[ICE]) {
                    wrong = FROZEN;
                }
                if (wrong == 0) {
                    comeBack();
                }
            }
        }

        void passForChanges(int days) {
            for (int i = 0; i < days; i++) {
                day++;
                comeBack();
            }
        }

        private void spoil() {
            for (int i = 0; i < river.things.size; i++) {
                loads[i] -= loads[i] * river.things.rows[i][SPOIL] / 100;
            }
        }

        private void eat() {
            int food = river.numbers[FOOD];
            if (food == NONE) {
                return;
            }
            int hands = river.numbers[HANDS];
            if (loads[food] < hands) {
                wrong = HUNGRY;
            } else {
                loads[food] -= hands;
            }
        }

        private void comeBack() {
            for (int k = 0; k < river.changes.size; k++) {
                int back = river.changes.rows[k][BACK];
                if (moved[k] > 0 && back > 0 && day % back == 0) {
                    moved[k]--;
                }
            }
        }

        /** Nothing, if the way there went wrong. */
        private void arrive(int there) {
            if (wrong != 0) {
                return;
            }
            landing = there;
            int[] row = river.landings.rows[there];
            if (owedFrom[there] != NONE && day >= owedFrom[there] + row[RETURN_DAYS]) {
                loads[row[RETURN]] += row[RETURNS];
            }
            if (loads[row[GIFT]] < row[GIFTS]) {
                wrong = UNWELCOME;
                return;
            }
            loads[row[GIFT]] -= row[GIFTS];
            owedFrom[there] = day;
            if (weight() > river.numbers[ROOM]) {
                wrong = HEAVY;
            }
        }

        private int weight() {
            int all = 0;
            for (int i = 0; i < river.things.size; i++) {
                all += loads[i] * river.things.rows[i][WEIGHT];
            }
            return all;
        }

        private void doTimes(int k, int n) {
            for (int i = 0; i < n && wrong == 0; i++) {
                if (!canDo(k)) {
                    wrong = NOT_DONE;
                    return;
                }
                doOnce(k);
                if (weight() > river.numbers[ROOM]) {
                    wrong = HEAVY;
                }
            }
        }

        /** Does a change as many times as goes right and not heavy: whether it was done. */
        boolean doAll(int k) {
            boolean done = false;
            int free = river.numbers[ROOM] - weight();
            for (int i = 0; i < MOST_TIMES && canDo(k); i++) {
                int more = moreWeight(k);
                if (more > free) {
                    break;
                }
                free -= more;
                doOnce(k);
                done = true;
            }
            return done;
        }

        boolean canDo(int k) {
            if (!river.changes.has(k)) {
                return false;
            }
            int[] row = river.changes.rows[k];
            return row[AT] == landing && times[k] < row[MOST] && loads[row[X]] >= row[A] + moved[k];
        }

        private int moreWeight(int k) {
            int[] row = river.changes.rows[k];
            int[][] things = river.things.rows;
            return row[B] * things[row[Y]][WEIGHT] - (row[A] + moved[k]) * things[row[X]][WEIGHT];
        }

        private void doOnce(int k) {
            int[] row = river.changes.rows[k];
            loads[row[X]] -= row[A] + moved[k];
            loads[row[Y]] += row[B];
            times[k]++;
            if (river.staysPut(row)) {
                return;
            }
            tally[k]++;
            if (tally[k] == row[EACH]) {
                tally[k] = 0;
                moved[k]++;
            }
        }
    }

    /** The best voyage of few acts. */
    private static final class Search {
        final River river;
        // The voyage behind so many acts of the row that is tried.
        final Voyage[] stages;
        final int[] row = new int[MOST_ACTS];
        final int[] best = new int[MOST_ACTS];
        int acts;
        int size;
        int home;

        Search(River river) {
            this.river = river;
            stages = new Voyage[MOST_ACTS + 1];
            for (int i = 0; i <= MOST_ACTS; i++) {
                stages[i] = new Voyage(river);
            }
        }

        /** Home by the best voyage of up to n acts; only while there are landings and home. */
        int mostHome(int n) {
            acts = n;
            home = NONE;
            stages[0].unmove();
            stages[0].depart();
            seek(this, 0);
            return home;
        }

        /** Tries all rows that go on from the first acts, in the order of rows. */
        private static void seek(Search search, int depth) {
            search.weigh(depth);
            if (depth >= search.acts || depth >= MOST_ACTS) {
                return;
            }
            Voyage behind = search.stages[depth + 1];
            for (int act = 0; act < DO + search.river.changes.size; act++) {
                if (!search.mayHelp(depth, act)) {
                    continue;
                }
                behind.copy(search.stages[depth]);
                search.row[depth] = act;
                if (goesRight(behind, act)) {
                    seek(search, depth + 1);
                }
            }
        }

        /**
         * False for acts that no best voyage has there: those from which too few acts are left to
         * come back to landing 0, and last ones that bring nothing of home.
         */
        private boolean mayHelp(int depth, int act) {
            Voyage voyage = stages[depth];
            int left = acts - depth - 1;
            if (act == UP) {
                return voyage.landing + 1 <= left;
            }
            if (act == DOWN) {
                return voyage.landing > 0;
            }
            if (voyage.landing > left) {
                return false;
            }
            if (act == WAIT) {
                return left > 0;
            }
            boolean helps = left > 0 || river.changes.rows[act - DO][Y] == river.numbers[HOME];
            return helps && voyage.canDo(act - DO);
        }

        private static boolean goesRight(Voyage voyage, int act) {
            if (act >= DO) {
                return voyage.doAll(act - DO);
            }
            if (act == UP) {
                voyage.goUp();
            } else if (act == DOWN) {
                voyage.goDown();
            } else {
                voyage.pass(1);
            }
            return voyage.wrong == 0;
        }

        /** Keeps the row of so many acts, if it is better than all before. */
        private void weigh(int depth) {
            if (stages[depth].landing != 0) {
                return;
            }
            int brought = stages[depth].loads[river.numbers[HOME]];
            if (brought > home || brought == home && depth < size) {
                home = brought;
                size = depth;
                System.arraycopy(row, 0, best, 0, depth);
            }
        }
    }

    /** Rings of changes, and prices where none gains. */
    private static final class Rings {
        final Table changes;
        final int[] row = new int[MOST_THINGS];
        final int[] best = new int[MOST_THINGS];
        int size;
        long above;
        long below;
        final long[] priceAbove = new long[MOST_THINGS];
        final long[] priceBelow = new long[MOST_THINGS];

        Rings(Table changes) {
            this.changes = changes;
        }

        /** Size 0: there is no ring. */
        void seekBest() {
            size = 0;
            for (int k = 0; k < changes.size; k++) {
                row[0] = k;
                seek(this, 1, changes.rows[k][B], changes.rows[k][A]);
            }
        }

        boolean gains() {
            return size > 0 && above > below;
        }

        /** Tries all rings that go on from the first changes, in the order of rows. */
        private static void seek(Rings rings, int depth, long above, long below) {
            int[][] rows = rings.changes.rows;
            int reached = rows[rings.row[depth - 1]][Y];
            if (reached == rows[rings.row[0]][X]) {
                rings.weigh(depth, above, below);
                return;
            }
            if (depth >= MOST_THINGS || rings.wasThere(reached, depth)) {
                return;
            }
            for (int k = rings.row[0] + 1; k < rings.changes.size; k++) {
                if (rows[k][X] == reached) {
                    rings.row[depth] = k;
                    seek(rings, depth + 1, above * rows[k][B], below * rows[k][A]);
                }
            }
        }

        private boolean wasThere(int thing, int depth) {
            for (int i = 1; i < depth; i++) {
                if (changes.rows[row[i]][X] == thing) {
                    return true;
                }
            }
            return false;
        }

        /** Keeps the ring of so many changes, if it is better than all before. */
        private void weigh(int depth, long ringAbove, long ringBelow) {
            long more = size == 0 ? 1 : ringAbove * below - above * ringBelow;
            if (more > 0 || more == 0 && depth < size) {
                size = depth;
                above = ringAbove;
                below = ringBelow;
                System.arraycopy(row, 0, best, 0, depth);
            }
        }

        /** Only where no ring gains: else the prices would grow for ever. */
        void findPrices(int home) {
            Arrays.fill(priceAbove, 0);
            Arrays.fill(priceBelow, 1);
            priceAbove[home] = 1;
            for (int round = 1; round < MOST_THINGS; round++) {
                for (int k = 0; k < changes.size; k++) {
                    raise(changes.rows[k]);
                }
            }
        }

        private void raise(int[] change) {
            int x = change[X];
            long newAbove = change[B] * priceAbove[change[Y]];
            long newBelow = change[A] * priceBelow[change[Y]];
            if (newAbove * priceBelow[x] > priceAbove[x] * newBelow) {
                priceAbove[x] = newAbove;
                priceBelow[x] = newBelow;
            }
        }
    }

    /** A number by a number, in lowest terms. */
    private static final class Fraction {
        long above = 0;
        long below = 1;

        /** Both are 0 at least, the lower one more. */
        void set(long newAbove, long newBelow) {
            long common = Math.max(1, commonOf(newAbove, newBelow));
            above = newAbove / common;
            below = newBelow / common;
        }

        private static long commonOf(long one, long other) {
            long big = one;
            long small = other;
            for (int i = 0; i < 1000 && small != 0; i++) {
                long rest = big % small;
                big = small;
                small = rest;
            }
            return big;
        }
    }
}
