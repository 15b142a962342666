/** Promises 9 to 11: texts and their faults. */
public final class TextsTest {
    private static final Check CHECK = new Check();

    public static void main(String[] args) {
        type();
        full();
        clear();
        fault();
        faultOfBytes();
        CHECK.end();
    }

    private static void type() {
        CHECK.about("promise 9");
        KnifeTrade x = new KnifeTrade();
        CHECK.due("type(-1, 0, 1)", x.type(-1, 0, 1), -2);
        CHECK.due("type(2, 0, 1)", x.type(2, 0, 1), -2);
        CHECK.due("type(0, 0, 0)", x.type(0, 0, 0), -2);
        CHECK.due("type(0, 0, 9)", x.type(0, 0, 9), -2);
        CHECK.due("type(0, 0, MIN)", x.type(0, 0, Integer.MIN_VALUE), -2);
        CHECK.due("count(3)", x.count(3), 0);
        // Only the lowest bytes come, the highest of them first.
        CHECK.due("type(0, 'wwwup', 2)", x.type(0, Check.packed("wwwup"), 2), 2);
        CHECK.due("type(0, 'wwww;', 1)", x.type(0, Check.packed("wwww;"), 1), 3);
        CHECK.due("fault(0)", x.fault(0), -1);
        CHECK.due("type(1, -1, 8)", x.type(1, -1, 8), 8);
        CHECK.due("count(3)", x.count(3), 3);
        CHECK.due("count(4)", x.count(4), 8);
        // Bytes are 0 to 255: h goes from 499 by five counts, six numbers, eight bytes, 0 by 1.
        long h = 499;
        for (long v : new long[] {0, 0, 0, 3, 8, 100, 2, -1, 100, 0, -1, 'u', 'p', ';',
            255, 255, 255, 255, 255, 255, 255, 255, 0, 1}) {
            h = 31 * h + v;
        }
        CHECK.due("digest()", x.digest(), h);
    }

    private static void full() {
        CHECK.about("promise 9");
        KnifeTrade x = new KnifeTrade();
        for (int i = 1; i <= 19; i++) {
            CHECK.due("type(1, blanks, 8)", x.type(1, Check.packed("        "), 8), 8 * i);
        }
        CHECK.due("type(1, 'do 0 1;', 7)", x.type(1, Check.packed("do 0 1;"), 7), 159);
        CHECK.due("type(1, 0, 2)", x.type(1, 0, 2), -4);
        CHECK.due("type(1, 0, 9)", x.type(1, 0, 9), -2);
        CHECK.due("count(4)", x.count(4), 159);
        CHECK.due("fault(1)", x.fault(1), -1);
        CHECK.due("type(1, ' ', 1)", x.type(1, ' ', 1), 160);
        CHECK.due("type(1, ' ', 1)", x.type(1, ' ', 1), -4);
        CHECK.due("fault(1)", x.fault(1), -1);
        CHECK.due("type(0, ' ', 1)", x.type(0, ' ', 1), 1);
        manySteps();
    }

    /** As many steps as a text can tell. */
    private static void manySteps() {
        KnifeTrade x = new KnifeTrade();
        x.landing(0, 0);
        x.landing(1, 1);
        StringBuilder words = new StringBuilder();
        for (int i = 0; i < 53; i++) {
            words.append("up;");
        }
        Check.tell(x, 0, words + ";");
        CHECK.due("count(3)", x.count(3), 160);
        CHECK.due("fault(0)", x.fault(0), 159);
        Check.tell(x, 0, words.toString());
        CHECK.due("fault(0)", x.fault(0), -1);
        Check.tell(x, 0, words + "u");
        CHECK.due("fault(0)", x.fault(0), 159);
        for (String almost : new String[] {"up", "do"}) {
            Check.tell(x, 0, words.substring(0, 156) + "  " + almost);
            CHECK.due("fault(0)", x.fault(0), 160);
        }
    }

    private static void clear() {
        CHECK.about("promise 10");
        KnifeTrade x = new KnifeTrade();
        CHECK.due("clear(-1)", x.clear(-1), -2);
        CHECK.due("clear(2)", x.clear(2), -2);
        CHECK.due("clear(0)", x.clear(0), 0);
        x.type(0, 'x', 3);
        x.type(1, 'y', 5);
        CHECK.due("clear(0)", x.clear(0), 3);
        CHECK.due("count(3)", x.count(3), 0);
        CHECK.due("count(4)", x.count(4), 5);
        CHECK.due("fault(0)", x.fault(0), -1);
        CHECK.due("clear(1)", x.clear(1), 5);
        CHECK.due("clear(1)", x.clear(1), 0);
    }

    private static void fault() {
        CHECK.about("promise 11");
        KnifeTrade x = new KnifeTrade();
        CHECK.due("fault(-1)", x.fault(-1), -2);
        CHECK.due("fault(2)", x.fault(2), -2);
        Object[][] texts = {
            {"", -1}, {" ", -1}, {"up;", -1}, {"up ; ", -1}, {"  down  ;up;", -1},
            {"wait 1;", -1}, {"wait 99;", -1}, {"wait1;", -1}, {"wait 01 ;", -1}, {"do 0 1;", -1},
            {"do 99 99;", -1}, {"do00 05;", -1}, {"up;down;wait 7;do 3 2;", -1},
            // words that are none of these
            {"upp;", 0}, {"u;", 0}, {"updown;", 0}, {"u p;", 0}, {"up; do wn;", 7},
            {"upa;", 0}, {"upz;", 0}, {"up`;", 2}, {"up{;", 2}, {"wait 1/;", 6}, {"wait 1:;", 6},
            {"waits 1;", 0}, {"dow;", 0}, {"up; x", 4}, {"up;u", 3}, {"Up;", 0}, {"uP;", 0},
            {"up;doo 1 1;", 3},
            // tokens where they can not stand
            {";", 0}, {"up;;", 3}, {"1;", 0}, {"up 1;", 3}, {"up1;", 2}, {"up down;", 3},
            {"wait;", 4}, {"wait up;", 5}, {"wait 1 2;", 7}, {"wait 5up;", 6}, {"do;", 2},
            {"do 1;", 4}, {"do 1 ;", 5}, {"do 1 up", 5}, {"do 1 2 3;", 7}, {"do up", 3},
            // numbers
            {"wait 0;", 5}, {"wait 00;", 5}, {"wait 100;", 5}, {"wait 001;", 5}, {"wait 1000", 5},
            {"do 100 1;", 3}, {"do 000 1;", 3}, {"do 1 0;", 5}, {"do 1 100;", 5}, {"do 0 00", 5},
            {"wait 1 1", 7}, {"wait -1;", 5}, {"do 1,2;", 4},
            // ended too early
            {"up", 2}, {"up ", 3}, {"up;down", 7}, {"wait", 4}, {"wait 1", 6}, {"wait 1  ", 8},
            {"do", 2}, {"do 1", 4}, {"do 1 2", 6}, {" do 1 2 ", 8},
        };
        for (Object[] text : texts) {
            String words = (String) text[0];
            for (int i = 0; i < 2; i++) {
                Check.tell(x, i, words);
                CHECK.due("fault of '" + words + "'", x.fault(i), (Integer) text[1]);
            }
        }
    }

    /** Blanks are bytes 32 alone; each other byte that begins no token is a fault. */
    private static void faultOfBytes() {
        CHECK.about("promise 11");
        KnifeTrade x = new KnifeTrade();
        for (int b = 0; b < 256; b++) {
            Check.tell(x, 0, "up;");
            x.type(0, b, 1);
            Check.tell(x, 1, "wait 1");
            x.type(1, b, 1);
            CHECK.due("fault of up; and byte " + b, x.fault(0), b == ' ' ? -1 : 3);
            boolean figure = b >= '0' && b <= '9';
            int due = b == ';' ? -1 : b == ' ' || figure ? 7 : 6;
            CHECK.due("fault of wait 1 and byte " + b, x.fault(1), due);
        }
    }
}
