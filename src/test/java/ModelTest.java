import java.util.Random;

/** Promises 1 to 29: runs of calls by chance, the same ones each time, against the model. */
public final class ModelTest {
    private static final int RUNS = 400;
    private static final int CALLS = 512;

    private final Check check;
    private final Random chance;
    private final KnifeTrade x = new KnifeTrade();
    private final Model model = new Model();

    private ModelTest(Check check, int seed) {
        this.check = check;
        chance = new Random(seed);
        check.about("run by chance " + seed);
    }

    public static void main(String[] args) {
        Check check = new Check();
        int from = args.length > 0 ? Integer.parseInt(args[0]) : 0;
        int runs = args.length > 1 ? Integer.parseInt(args[1]) : RUNS;
        for (int seed = from; seed < from + runs && check.isRight(); seed++) {
            new ModelTest(check, seed).go();
        }
        check.end();
    }

    /** Mostly a number as told, now and then one beside or far off. */
    private int some(int least, int most) {
        int kind = chance.nextInt(60);
        if (kind == 0) {
            return least - 1;
        }
        if (kind == 1) {
            return most + 1;
        }
        if (kind == 2) {
            return chance.nextInt();
        }
        return right(least, most);
    }

    private int right(int least, int most) {
        return most < least ? least : least + chance.nextInt(most - least + 1);
    }

    private int thing() {
        return some(0, Math.max(0, model.count(1) - 1));
    }

    private int landing() {
        return some(0, Math.max(0, model.count(0) - 1));
    }

    private int change() {
        return some(0, Math.max(0, model.count(2) - 1));
    }

    private void go() {
        tell();
        int asked = 0;
        for (int call = 40; call < CALLS && check.isRight(); call++) {
            int kind = chance.nextInt(100);
            if (kind < 12) {
                add(chance.nextInt(8));
            } else if (kind < 30) {
                text();
                call++;
            } else if (kind < 60) {
                voyage(chance.nextInt(8));
            } else if (kind < 75) {
                ring(chance.nextInt(6));
            } else if (kind < 78 && asked < 12) {
                seek(chance.nextInt(10));
                asked++;
            } else {
                look(chance.nextInt(8));
            }
            same("digest()", x.digest(), model.digest());
        }
    }

    private void same(String call, long got, long want) {
        check.due(call, got, want);
    }

    /** A river to begin with. */
    private void tell() {
        int landings = right(0, 6);
        int things = right(0, 6);
        for (int i = 0; i < landings; i++) {
            add(0);
        }
        for (int i = 0; i < things; i++) {
            add(1);
        }
        for (int i = 0; i < 8; i++) {
            add(3);
            add(6);
        }
        for (int i = 0; i < 4; i++) {
            add(2);
            add(4);
        }
        add(5);
    }

    private void add(int kind) {
        switch (kind) {
            case 0: {
                int up = some(1, chance.nextBoolean() ? 9 : 3);
                int down = some(1, chance.nextBoolean() ? 9 : 3);
                same("landing(" + up + ", " + down + ")", x.landing(up, down), model.landing(up, down));
                break;
            }
            case 1: {
                int weight = some(1, chance.nextBoolean() ? 20 : 3);
                int spoil = chance.nextBoolean() ? 0 : some(0, 50);
                same("thing(" + weight + ", " + spoil + ")", x.thing(weight, spoil),
                        model.thing(weight, spoil));
                break;
            }
            case 2:
                addNumber();
                break;
            case 3: {
                int l = landing();
                int f = thing();
                int a = some(1, chance.nextBoolean() ? 20 : 4);
                int t = thing();
                int b = some(1, chance.nextBoolean() ? 20 : 4);
                same("change(" + l + ", " + f + ", " + a + ", " + t + ", " + b + ")",
                        x.change(l, f, a, t, b), model.change(l, f, a, t, b));
                break;
            }
            case 4: {
                int c = change();
                int each = some(0, 9);
                int back = some(0, chance.nextBoolean() ? 30 : 5);
                int most = some(0, 99);
                same("moves(" + c + ", " + each + ", " + back + ", " + most + ")",
                        x.moves(c, each, back, most), model.moves(c, each, back, most));
                break;
            }
            case 5: {
                int l = landing();
                int f = thing();
                int n = some(0, chance.nextBoolean() ? 20 : 3);
                int t = thing();
                int m = some(0, chance.nextBoolean() ? 40 : 3);
                int days = some(0, chance.nextBoolean() ? 90 : 8);
                same("greeting(" + l + ", " + f + ", " + n + ", " + t + ", " + m + ", " + days + ")",
                        x.greeting(l, f, n, t, m, days), model.greeting(l, f, n, t, m, days));
                break;
            }
            case 6: {
                int t = thing();
                int n = some(0, 99);
                same("start(" + t + ", " + n + ")", x.start(t, n), model.start(t, n));
                break;
            }
            default: {
                int i = some(0, 1);
                if (chance.nextBoolean()) {
                    same("image(" + i + ")", x.image(i), model.image(i));
                } else {
                    same("from(" + i + ")", x.from(i), model.from(i));
                }
            }
        }
    }

    private void addNumber() {
        int what = some(0, 5);
        int v;
        switch (what) {
            case 0:
                v = some(chance.nextInt(5) == 0 ? 1 : 200, 500);
                break;
            case 1:
                v = some(1, 6);
                break;
            case 2:
                v = chance.nextInt(3) == 0 ? thing() : -1;
                break;
            case 3:
                v = some(chance.nextInt(4) == 0 ? 1 : 100, 400);
                break;
            case 4:
                v = chance.nextInt(9) == 0 ? some(0, 5) : thing();
                break;
            default:
                v = chance.nextInt(3) == 0 ? -1 : landing();
        }
        same("put(" + what + ", " + v + ")", x.put(what, v), model.put(what, v));
    }

    private void text() {
        int text = some(0, 1);
        if (chance.nextInt(3) == 0) {
            same("clear(" + text + ")", x.clear(text), model.clear(text));
        }
        String words = words();
        for (int at = 0; at < words.length(); at += 8) {
            String piece = words.substring(at, Math.min(at + 8, words.length()));
            long v = Check.packed(piece);
            int n = chance.nextInt(40) == 0 ? some(1, 8) : piece.length();
            same("type(" + text + ", " + v + ", " + n + ")", x.type(text, v, n), model.type(text, v, n));
        }
        same("fault(" + text + ")", x.fault(text), model.fault(text));
    }

    private String words() {
        StringBuilder words = new StringBuilder();
        for (int i = right(1, 8); i > 0; i--) {
            String[] kinds = {"up;", "up ;", "down;", "wait " + right(1, 9) + ";",
                "wait" + some(1, 99) + ";", "do " + change() + " " + right(1, 4) + ";",
                "do " + change() + " " + some(1, 99) + ";"};
            words.append(kinds[chance.nextInt(kinds.length)]);
        }
        if (chance.nextInt(12) == 0) {
            words.setCharAt(chance.nextInt(words.length()), (char) chance.nextInt(256));
        }
        if (chance.nextInt(12) == 0) {
            words.deleteCharAt(chance.nextInt(words.length()));
        }
        return words.toString();
    }

    private void voyage(int kind) {
        int text = some(0, 1);
        int what = some(0, 3);
        int t = thing();
        if (kind < 3) {
            same("run(" + text + ", " + what + ")", x.run(text, what), model.run(text, what));
        } else if (kind < 6) {
            same("load(" + text + ", " + t + ")", x.load(text, t), model.load(text, t));
        } else {
            int days = some(0, 99);
            int asked = chance.nextBoolean() ? what : t + 4;
            same("rival(" + days + ", " + asked + ")", x.rival(days, asked), model.rival(days, asked));
        }
    }

    private void ring(int kind) {
        if (kind < 3) {
            int what = some(-1, 5);
            same("ring(" + what + ")", x.ring(what), model.ring(what));
        } else {
            int t = thing();
            same("price(" + t + ")", x.price(t), model.price(t));
        }
        int what = some(0, 1);
        same("part(" + what + ")", x.part(what), model.part(what));
    }

    private void seek(int kind) {
        int n = some(0, chance.nextInt(3) == 0 ? 4 : 3);
        int t = thing();
        if (kind < 3) {
            for (int what = -1; what <= 4; what++) {
                same("best(" + n + ", " + what + ")", x.best(n, what), model.best(n, what));
            }
        } else if (kind == 3) {
            int what = some(-1, 4);
            same("best(" + n + ", " + what + ")", x.best(n, what), model.best(n, what));
        } else if (kind < 6) {
            same("worth(" + t + ", " + n + ")", x.worth(t, n), model.worth(t, n));
        } else if (kind == 6) {
            same("lack(" + n + ")", x.lack(n), model.lack(n));
        } else if (kind == 7) {
            same("crew(" + n + ")", x.crew(n), model.crew(n));
        } else {
            same("where(" + n + ")", x.where(n), model.where(n));
        }
    }

    private void look(int kind) {
        int c = change();
        int times = some(0, 99);
        int l = landing();
        if (kind < 2) {
            same("latest(" + l + ")", x.latest(l), model.latest(l));
        } else if (kind < 4) {
            int days = some(0, chance.nextBoolean() ? 999 : 60);
            same("rate(" + c + ", " + times + ", " + days + ")", x.rate(c, times, days),
                    model.rate(c, times, days));
        } else if (kind < 6) {
            same("waits(" + c + ", " + times + ")", x.waits(c, times), model.waits(c, times));
        } else {
            int what = some(0, 4);
            same("count(" + what + ")", x.count(what), model.count(what));
        }
    }
}
