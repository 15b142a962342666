/** Promises 9 to 11: each bound that is told of texts, and each place where a token can not stand. */
public final class TextsBoundsTest {
    private static final int NONE = KnifeTrade.NONE;
    private static final int BAD = KnifeTrade.BAD;
    private static final int FULL = KnifeTrade.FULL;
    private static final int MOST = 160;

    private static final Check CHECK = new Check();
    private static final Bounds EMPTY = new Bounds(CHECK, KnifeTrade::new);
    private static final Bounds RICH = new Bounds(CHECK, Rivers::rich);
    private static final Bounds WHOLE = new Bounds(CHECK, Rivers::full);

    // Ways to begin a text, by what may stand next.
    private static final String[] BEFORE_WORD = {"", "up;", "down ;", "wait 1;", " do 00 99; "};
    private static final String[] BEFORE_CHANGE = {"do", "up; do", "do 1 2;do"};
    private static final String[] BEFORE_TIMES = {"wait", "down;wait", "do 0", "do 00", "do 99"};
    private static final String[] BEFORE_END = {"up", "down", "wait 1", "wait 99", "do 0 1", "do 5 99"};

    public static void main(String[] args) {
        type();
        typeBytes();
        typeUpToTheMost();
        typeFull();
        clear();
        clearLeavesNothing();
        faultOfText();
        faultOfEmpty();
        faultOfWords();
        faultOfNumbers();
        faultOfEnds();
        faultOfOtherBytes();
        faultIsTheFirst();
        faultOfEarlyEnds();
        faultWithoutBlanks();
        CHECK.end();
    }

    private static KnifeTrade blanks(int text, int length) {
        KnifeTrade x = new KnifeTrade();
        Check.tell(x, text, " ".repeat(length));
        return x;
    }

    private static void type() {
        CHECK.about("promise 9, 'TEXTS 0, 1'");
        EMPTY.range("type(v, 7, 3)", (x, v) -> x.type(v, 7, 3), 0, 1, 3, BAD);
        RICH.beyond("type(v, 7, 3)", (x, v) -> x.type(v, 7, 3), 0, 1, BAD);
        CHECK.about("promise 9, 'n (1 .. 8)'");
        for (int n = 1; n <= 8; n++) {
            EMPTY.taken("type(0, 7, v)", (x, v) -> x.type(0, 7, v), n, n);
            EMPTY.taken("type(1, 7, v)", (x, v) -> x.type(1, 7, v), n, n);
        }
        EMPTY.beyond("type(0, 7, v)", (x, v) -> x.type(0, 7, v), 1, 8, BAD);
        RICH.beyond("type(1, 7, v)", (x, v) -> x.type(1, 7, v), 1, 8, BAD);
    }

    /** However v is, its lowest n bytes come as if one came behind the other. */
    private static void typeBytes() {
        CHECK.about("promise 9, 'The lowest n bytes of v, the highest of them first'");
        long[] values = {0, 1, -1, Long.MIN_VALUE, Long.MAX_VALUE, 0x0102030405060708L,
            0xfedcba9876543210L, 0x80L, 0xff00L};
        for (long v : values) {
            for (int n = 1; n <= 8; n++) {
                KnifeTrade x = new KnifeTrade();
                KnifeTrade y = new KnifeTrade();
                CHECK.due("type(0, " + v + ", " + n + ")", x.type(0, v, n), n);
                for (int i = n - 1; i >= 0; i--) {
                    y.type(0, v >> 8 * i & 255, 1);
                }
                CHECK.due("digest()", x.digest(), y.digest());
            }
        }
    }

    private static void typeUpToTheMost() {
        CHECK.about("promise 9, '160 bytes each at most'");
        for (int text = 0; text < 2; text++) {
            for (int n = 1; n <= 8; n++) {
                KnifeTrade x = blanks(text, MOST - n);
                CHECK.due("type(" + text + ", 7, " + n + ")", x.type(text, 7, n), MOST);
                CHECK.due("type(" + text + ", 7, 1)", x.type(text, 7, 1), FULL);
                CHECK.due("count()", x.count(3 + text), MOST);
                // One byte too many: none of them comes.
                int there = MOST - n + 1;
                int t = text;
                Bounds almost = new Bounds(CHECK, () -> blanks(t, there));
                almost.refused("type(" + text + ", 7, v)", (y, v) -> y.type(t, 7, v), FULL, n, 8);
            }
        }
    }

    private static void typeFull() {
        for (int text = 0; text < 2; text++) {
            int t = text;
            CHECK.about("promise 9, FULL");
            WHOLE.refused("type(" + t + ", 7, v)", (x, v) -> x.type(t, 7, v), FULL, 1, 2, 7, 8);
            CHECK.about("promise 9, BAD comes ahead of FULL");
            WHOLE.beyond("type(" + t + ", 7, v)", (x, v) -> x.type(t, 7, v), 1, 8, BAD);
        }
        WHOLE.beyond("type(v, 7, 1)", (x, v) -> x.type(v, 7, 1), 0, 1, BAD);
        CHECK.about("promise 9, one text is full, the other one is not");
        for (int text = 0; text < 2; text++) {
            KnifeTrade x = blanks(text, MOST);
            CHECK.due("type(full)", x.type(text, ' ', 1), FULL);
            CHECK.due("type(other)", x.type(1 - text, ' ', 8), 8);
        }
    }

    private static void clear() {
        CHECK.about("promise 10, 'clear(int text)'");
        EMPTY.range("clear(v)", (x, v) -> x.clear(v), 0, 1, 0, BAD);
        RICH.beyond("clear(v)", (x, v) -> x.clear(v), 0, 1, BAD);
        WHOLE.range("clear(v)", (x, v) -> x.clear(v), 0, 1, MOST, BAD);
        CHECK.about("promise 10, 'how many it had'");
        EMPTY.unchanged("clear(0) of an empty text", (x, v) -> x.clear(0), 0);
        EMPTY.unchanged("clear(1) of an empty text", (x, v) -> x.clear(1), 0);
        for (int text = 0; text < 2; text++) {
            for (int length : new int[] {0, 1, 8, 159, MOST}) {
                KnifeTrade x = blanks(text, length);
                x.type(1 - text, 7, 2);
                CHECK.due("clear(" + text + ")", x.clear(text), length);
                CHECK.due("clear(" + text + ")", x.clear(text), 0);
                CHECK.due("count(text)", x.count(3 + text), 0);
                CHECK.due("count(other)", x.count(4 - text), 2);
            }
        }
    }

    /** Old bytes behind the text's end are no part of its last token. */
    private static void clearLeavesNothing() {
        CHECK.about("promise 10, 'A TEXT is empty'");
        String[][] texts = {{"wait 123", "wait 12", "7"}, {"wait 12;", "wait 12", "7"},
            {"do 1 25;", "do 1 2", "6"}, {"upper", "up", "2"}, {"up;;", "up;", "-1"},
            {"up;x", "up;", "-1"}, {"down;", "down", "4"}, {"x", "", "-1"}, {"up; up;", "up; ", "-1"}};
        for (String[] t : texts) {
            for (int text = 0; text < 2; text++) {
                KnifeTrade x = new KnifeTrade();
                Check.tell(x, text, t[0]);
                Check.tell(x, text, t[1]);
                CHECK.due("fault of '" + t[1] + "' behind '" + t[0] + "'", x.fault(text),
                        Integer.parseInt(t[2]));
                KnifeTrade y = new KnifeTrade();
                Check.tell(y, text, t[1]);
                CHECK.due("digest()", x.digest(), y.digest());
            }
        }
        KnifeTrade x = Rivers.full();
        CHECK.due("clear(0)", x.clear(0), MOST);
        CHECK.due("type(0, 'up;', 3)", x.type(0, Check.packed("up;"), 3), 3);
        CHECK.due("run(0, 0)", x.run(0, 0), 1);
    }

    private static void faultOfText() {
        CHECK.about("promise 11, 'FAULT of a TEXT'");
        EMPTY.range("fault(v)", (x, v) -> x.fault(v), 0, 1, NONE, BAD);
        RICH.range("fault(v)", (x, v) -> x.fault(v), 0, 1, NONE, BAD);
        WHOLE.range("fault(v)", (x, v) -> x.fault(v), 0, 1, NONE, BAD);
        EMPTY.unchanged("fault(0)", (x, v) -> x.fault(0), NONE);
        KnifeTrade x = new KnifeTrade();
        Check.tell(x, 1, "up");
        CHECK.due("fault(0)", x.fault(0), NONE);
        CHECK.due("fault(1)", x.fault(1), 2);
    }

    private static void dueFault(String words, int place) {
        KnifeTrade x = new KnifeTrade();
        for (int text = 0; text < 2; text++) {
            Check.tell(x, text, words);
            CHECK.due("fault of '" + words + "'", x.fault(text), place);
        }
    }

    private static void faultOfEmpty() {
        CHECK.about("promise 11, '(an empty one has none)'");
        dueFault("", NONE);
        CHECK.about("promise 11, blanks alone tell no steps");
        dueFault(" ", NONE);
        dueFault(" ".repeat(MOST), NONE);
    }

    /** A token behind each of these beginnings: it can not stand there. */
    private static void dueNot(String[] beginnings, String token) {
        for (String before : beginnings) {
            dueFault(before + " " + token, before.length() + 1);
            dueFault(before + "  " + token + " ;", before.length() + 2);
        }
    }

    /** It can stand there; what is told is whole with it, or ends too early. */
    private static void dueMay(String[] beginnings, String token, boolean whole) {
        for (String before : beginnings) {
            String words = before + " " + token;
            dueFault(words, whole ? NONE : words.length());
            dueFault(words + "  ", whole ? NONE : words.length() + 2);
        }
    }

    private static void faultOfWords() {
        CHECK.about("promise 11, 'up, down, wait n, do k n'");
        for (String word : new String[] {"up", "down", "wait", "do"}) {
            dueMay(BEFORE_WORD, word, false);
            dueNot(BEFORE_CHANGE, word);
            dueNot(BEFORE_TIMES, word);
            dueNot(BEFORE_END, word);
        }
        CHECK.about("promise 11, 'a word that is none of these'");
        for (String word : new String[] {"a", "z", "u", "upp", "dow", "downn", "wai", "waits", "d",
            "doo", "updown", "pu", "az", "x".repeat(100)}) {
            dueNot(BEFORE_WORD, word);
            dueNot(BEFORE_CHANGE, word);
            dueNot(BEFORE_TIMES, word);
            dueNot(BEFORE_END, word);
        }
    }

    private static void faultOfNumbers() {
        CHECK.about("promise 11, 'figures (1 or 2 are one number)'");
        for (int n = 0; n <= 99; n++) {
            String two = "" + n / 10 + n % 10;
            for (String number : new String[] {"" + n, two}) {
                dueNot(BEFORE_WORD, number);
                dueMay(BEFORE_CHANGE, number, false);
                dueNot(BEFORE_END, number);
                if (n > 0) {
                    dueMay(BEFORE_TIMES, number, false);
                }
            }
        }
        CHECK.about("promise 11, 'a number 0 for n'");
        dueNot(BEFORE_TIMES, "0");
        dueNot(BEFORE_TIMES, "00");
        CHECK.about("promise 11, 'a third figure's number'");
        for (String number : new String[] {"000", "001", "010", "099", "100", "999", "0000", "1234",
            "9".repeat(20)}) {
            dueNot(BEFORE_WORD, number);
            dueNot(BEFORE_CHANGE, number);
            dueNot(BEFORE_TIMES, number);
            dueNot(BEFORE_END, number);
        }
    }

    private static void faultOfEnds() {
        CHECK.about("promise 11, 'each ended by ;'");
        dueMay(BEFORE_END, ";", true);
        dueNot(BEFORE_WORD, ";");
        dueNot(BEFORE_CHANGE, ";");
        dueNot(BEFORE_TIMES, ";");
    }

    private static boolean beginsOne(int b) {
        return b >= 'a' && b <= 'z' || b >= '0' && b <= '9' || b == ';' || b == ' ';
    }

    private static void faultOfOtherBytes() {
        CHECK.about("promise 11, 'a byte that begins none'");
        for (int b = 0; b < 256; b++) {
            if (!beginsOne(b)) {
                String one = String.valueOf((char) b);
                for (String[] beginnings : new String[][] {BEFORE_WORD, BEFORE_CHANGE, BEFORE_TIMES,
                    BEFORE_END}) {
                    dueNot(beginnings, one);
                    for (String before : beginnings) {
                        dueFault(before + one, before.length());
                    }
                }
            }
        }
    }

    private static void faultIsTheFirst() {
        CHECK.about("promise 11, 'the first TOKEN that can not stand there'");
        dueFault("up up x", 3);
        dueFault("x up", 0);
        dueFault("wait 0 0;", 5);
        dueFault("wait 100 ;;", 5);
        dueFault("up;;;", 3);
        dueFault("do 1 0 100", 5);
        dueFault("do 100 0", 3);
        // Ahead of a text that ends too early.
        dueFault("up; x; wait", 4);
        CHECK.about("promise 11, at the text's ends");
        dueFault("!", 0);
        dueFault(" ".repeat(MOST - 1) + "!", MOST - 1);
        dueFault(" ".repeat(MOST - 3) + "up;", NONE);
    }

    private static void faultOfEarlyEnds() {
        CHECK.about("promise 11, 'the text's length, if it ends too early'");
        for (String[] beginnings : new String[][] {BEFORE_CHANGE, BEFORE_TIMES, BEFORE_END}) {
            for (String before : beginnings) {
                for (int blanks = 0; blanks <= 2; blanks++) {
                    dueFault(before + " ".repeat(blanks), before.length() + blanks);
                }
                dueFault(" ".repeat(MOST - before.length()) + before, MOST);
                dueFault(before + " ".repeat(MOST - before.length()), MOST);
            }
        }
        for (String before : BEFORE_WORD) {
            dueFault(before, NONE);
        }
    }

    private static void faultWithoutBlanks() {
        CHECK.about("promise 11, blanks between tokens need not be");
        dueFault("up;down;wait1;do1 1;", NONE);
        dueFault("do1 1;up;", NONE);
        // Letters are one word, figures one number.
        dueFault("waitup;", 0);
        dueFault("do11;", 4);
        dueFault("do1 1up;", 5);
        dueFault("wait1up", 5);
        dueFault("up1", 2);
    }
}
