/** Counts the answers that are not as due; a test's main ends with end(). */
final class Check {
    private int asked = 0;
    private int wrong = 0;
    private String about = "";

    /** What the next answers are about: a promise, mostly. */
    void about(String what) {
        about = what;
    }

    void due(String call, long got, long want) {
        asked++;
        if (got != want) {
            wrong++;
            System.out.println(about + ": " + call + " answered " + got + ", due is " + want);
        }
    }

    void fail(String what) {
        asked++;
        wrong++;
        System.out.println(about + ": " + what);
    }

    boolean isRight() {
        return wrong == 0;
    }

    void end() {
        System.out.println(asked + " answers, " + wrong + " not as due");
        if (wrong != 0) {
            System.exit(1);
        }
    }

    /** Tells a text anew, in pieces of eight bytes at most. */
    static void tell(KnifeTrade x, int text, String words) {
        x.clear(text);
        for (int at = 0; at < words.length(); at += 8) {
            String piece = words.substring(at, Math.min(at + 8, words.length()));
            x.type(text, packed(piece), piece.length());
        }
    }

    static long packed(String piece) {
        long v = 0;
        for (int i = 0; i < piece.length(); i++) {
            v = v << 8 | piece.charAt(i);
        }
        return v;
    }

    /** The whole of run() for a voyage: right, wrong, day, landing. */
    void dueRun(KnifeTrade x, String words, int right, int why, int day, int landing) {
        tell(x, 0, words);
        due("run of '" + words + "' 0", x.run(0, 0), right);
        due("run of '" + words + "' 1", x.run(0, 1), why);
        due("run of '" + words + "' 2", x.run(0, 2), day);
        due("run of '" + words + "' 3", x.run(0, 3), landing);
    }

    void dueLoads(KnifeTrade x, int... loads) {
        for (int i = 0; i < loads.length; i++) {
            due("load(0, " + i + ")", x.load(0, i), loads[i]);
        }
    }

    void duePart(KnifeTrade x, long above, long below) {
        due("part(0)", x.part(0), above);
        due("part(1)", x.part(1), below);
    }

    /** The whole of best() for so many acts: home, how many acts, each of them. */
    void dueBest(KnifeTrade x, int n, int home, int... acts) {
        due("best(" + n + ", NONE)", x.best(n, -1), home);
        due("best(" + n + ", 4)", x.best(n, 4), acts.length);
        for (int i = 0; i < 4; i++) {
            due("best(" + n + ", " + i + ")", x.best(n, i), i < acts.length ? acts[i] : -5);
        }
    }

    /** What digest() makes of these values. */
    static long mixed(long... values) {
        long h = 499;
        for (long v : values) {
            h = 31 * h + v;
        }
        return h;
    }
}
