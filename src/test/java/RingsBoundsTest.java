/** Promises 15 and 16: each bound that is told of rings and prices. */
public final class RingsBoundsTest {
    private static final int NONE = KnifeTrade.NONE;
    private static final int BAD = KnifeTrade.BAD;
    private static final int NO = KnifeTrade.NO;
    private static final int BAD_NUMBER = -10;
    private static final int NOT_SO_MANY = -5;
    private static final int MIN = Integer.MIN_VALUE;
    private static final int MAX = Integer.MAX_VALUE;

    private static final Check CHECK = new Check();
    private static final Bounds EMPTY = new Bounds(CHECK, KnifeTrade::new);
    private static final Bounds RICH = new Bounds(CHECK, Rivers::rich);
    private static final Bounds WHOLE = new Bounds(CHECK, Rivers::full);

    public static void main(String[] args) {
        noRing();
        what();
        sizes();
        noneAloneSetsTheFraction();
        closed();
        unlikeThings();
        likeGains();
        likeGainsAndSizes();
        nearGains();
        price();
        priceRefused();
        priceWhereARingGains();
        priceOfHome();
        priceOfNothing();
        priceIsTheGreatest();
        priceOverAllThings();
        priceInLowestTerms();
        CHECK.end();
    }

    /** One landing, and changes: of thing x a for b of thing y. */
    private static KnifeTrade river(int things, int[]... changes) {
        KnifeTrade x = Rivers.plain(1, things);
        for (int[] c : changes) {
            x.change(0, c[0], c[1], c[2], c[3]);
        }
        return x;
    }

    private static void dueRing(KnifeTrade x, long above, long below, int... row) {
        CHECK.due("ring(NONE)", x.ring(NONE), row.length);
        CHECK.duePart(x, above, below);
        for (int i = 0; i < row.length; i++) {
            CHECK.due("ring(" + i + ")", x.ring(i), row[i]);
        }
        CHECK.due("ring(" + row.length + ")", x.ring(row.length), NOT_SO_MANY);
    }

    private static void noRing() {
        CHECK.about("promise 15, '-5: there is none'");
        EMPTY.refused("ring(v)", (x, v) -> x.ring(v), NOT_SO_MANY, NONE, 0, 1, 5, 6, MAX);
        // Changes that lead on for ever, or nowhere, are no ring.
        Bounds row = new Bounds(CHECK, () -> river(6, new int[] {0, 1, 1, 2}, new int[] {1, 1, 2, 2},
                new int[] {2, 1, 3, 2}, new int[] {3, 1, 4, 2}, new int[] {4, 1, 5, 2},
                new int[] {0, 1, 5, 2}, new int[] {0, 1, 1, 3}, new int[] {1, 1, 5, 2}));
        row.refused("ring(v)", (x, v) -> x.ring(v), NOT_SO_MANY, NONE, 0, 1, 5, 6, MAX);
        CHECK.about("promise 15, BAD -10 comes ahead of -5");
        EMPTY.refused("ring(v)", (x, v) -> x.ring(v), BAD_NUMBER, MIN, -10, -5, -2);
        row.refused("ring(v)", (x, v) -> x.ring(v), BAD_NUMBER, MIN, -10, -5, -2);
    }

    private static void what() {
        CHECK.about("promise 15, 'BAD: -10'");
        RICH.refused("ring(v)", (x, v) -> x.ring(v), BAD_NUMBER, MIN, -10, -3, -2);
        WHOLE.refused("ring(v)", (x, v) -> x.ring(v), BAD_NUMBER, MIN, -10, -3, -2);
        CHECK.about("promise 15, '-5: .. not so many'");
        RICH.refused("ring(v)", (x, v) -> x.ring(v), NOT_SO_MANY, 2, 3, 5, 6, 7, 8, MAX);
        WHOLE.refused("ring(v)", (x, v) -> x.ring(v), NOT_SO_MANY, 6, 7, 8, MAX);
    }

    private static void sizes() {
        CHECK.about("promise 15, 'how many CHANGES', 2 to 6");
        for (int things = 2; things <= 6; things++) {
            KnifeTrade x = Rivers.plain(1, things);
            for (int i = 0; i < things - 1; i++) {
                x.change(0, i, 1, i + 1, 1);
                CHECK.due("ring(NONE)", x.ring(NONE), NOT_SO_MANY);
            }
            x.change(0, things - 1, 3, 0, 2);
            int[] row = new int[things];
            for (int i = 0; i < things; i++) {
                row[i] = i;
            }
            dueRing(x, 2, 3, row);
            CHECK.due("ring(MAX)", x.ring(MAX), NOT_SO_MANY);
        }
    }

    private static void noneAloneSetsTheFraction() {
        CHECK.about("promise 15, '(what = NONE; its GAIN is THE FRACTION)'");
        Bounds ring = new Bounds(CHECK, () -> river(2, new int[] {0, 2, 1, 1}, new int[] {1, 4, 0, 3}));
        ring.unchanged("ring(0)", (x, v) -> x.ring(0), 0);
        ring.unchanged("ring(1)", (x, v) -> x.ring(1), 1);
        ring.unchanged("ring(2)", (x, v) -> x.ring(2), NOT_SO_MANY);
        KnifeTrade x = river(2, new int[] {0, 2, 1, 1}, new int[] {1, 4, 0, 3});
        CHECK.due("ring(1)", x.ring(1), 1);
        CHECK.duePart(x, 0, 1);
        dueRing(x, 3, 8, 0, 1);
    }

    private static void closed() {
        CHECK.about("promise 15, 'one behind the other, the last one's y is the first one's x'");
        // 0 to 1 to 2 to 1: the first change leads into a ring, and is none of it.
        KnifeTrade x = river(3, new int[] {0, 1, 1, 20}, new int[] {1, 5, 2, 2}, new int[] {2, 1, 1, 2});
        dueRing(x, 4, 5, 1, 2);
        // Changes from the same thing, or to it, are not one behind the other.
        x = river(3, new int[] {0, 1, 1, 1}, new int[] {0, 1, 2, 1}, new int[] {1, 1, 2, 1});
        CHECK.due("ring(NONE)", x.ring(NONE), NOT_SO_MANY);
        x.change(0, 2, 1, 0, 1);
        dueRing(x, 1, 1, 1, 3);
    }

    private static void unlikeThings() {
        CHECK.about("promise 15, 'each of unlike THINGS'");
        // Two rings through thing 0 that gain 2 each would gain 4 together.
        KnifeTrade x = river(3, new int[] {0, 1, 1, 2}, new int[] {1, 1, 0, 1}, new int[] {0, 1, 2, 2},
                new int[] {2, 1, 0, 1});
        dueRing(x, 2, 1, 0, 1);
        x.change(0, 2, 2, 0, 3);
        dueRing(x, 3, 1, 2, 4);
    }

    private static void likeGains() {
        CHECK.about("promise 15, 'then the first row, told from its least CHANGE on'");
        KnifeTrade x = river(3, new int[] {2, 1, 1, 1}, new int[] {1, 1, 2, 1});
        dueRing(x, 1, 1, 0, 1);
        x = river(3, new int[] {2, 1, 0, 1}, new int[] {1, 1, 2, 1}, new int[] {0, 1, 1, 1});
        dueRing(x, 1, 1, 0, 2, 1);
        // 0 4, 1 3 and 2 3 gain alike.
        x = river(3, new int[] {0, 2, 1, 2}, new int[] {1, 3, 2, 3}, new int[] {1, 1, 2, 1},
                new int[] {2, 1, 1, 1}, new int[] {1, 5, 0, 5});
        dueRing(x, 1, 1, 0, 4);
        x = river(2, new int[] {0, 2, 1, 2}, new int[] {0, 3, 1, 3}, new int[] {1, 7, 0, 7},
                new int[] {1, 1, 0, 1});
        dueRing(x, 1, 1, 0, 2);
    }

    private static void likeGainsAndSizes() {
        CHECK.about("promise 15, 'of like ones the fewest CHANGES' ahead of the first row");
        KnifeTrade x = river(3, new int[] {0, 1, 1, 1}, new int[] {1, 1, 2, 1}, new int[] {2, 1, 0, 1});
        dueRing(x, 1, 1, 0, 1, 2);
        x.change(0, 2, 9, 1, 9);
        dueRing(x, 1, 1, 1, 3);
        x.change(0, 1, 9, 0, 9);
        dueRing(x, 1, 1, 0, 4);
        CHECK.about("promise 15, 'the greatest GAIN' ahead of the fewest CHANGES");
        x = river(3, new int[] {0, 20, 1, 19}, new int[] {1, 1, 0, 1}, new int[] {1, 1, 2, 1},
                new int[] {2, 19, 0, 19});
        dueRing(x, 19, 20, 0, 1);
        x.change(0, 2, 19, 0, 20);
        dueRing(x, 1, 1, 0, 2, 4);
    }

    private static void nearGains() {
        CHECK.about("promise 15, 'the greatest GAIN', by however little");
        // 361 by 360 is more than 1, and 1 is more than 360 by 361.
        KnifeTrade x = river(2, new int[] {0, 19, 1, 18}, new int[] {1, 19, 0, 20});
        dueRing(x, 360, 361, 0, 1);
        x.change(0, 1, 18, 0, 19);
        dueRing(x, 1, 1, 0, 2);
        x.change(0, 0, 20, 1, 19);
        dueRing(x, 361, 360, 2, 3);
    }

    private static void price() {
        CHECK.about("promise 16, 'PRICE of a THING'");
        RICH.beyond("price(v)", (x, v) -> x.price(v), 0, 2, BAD);
        RICH.taken("price(v)", (x, v) -> x.price(v), 1, 0, 1, 2);
        EMPTY.refused("price(v)", (x, v) -> x.price(v), BAD, MIN, -1, 0, 1, MAX);
        WHOLE.range("price(v)", (x, v) -> x.price(v), 0, 5, 1, BAD);
        // No landing is needed.
        CHECK.due("price(0)", Rivers.plain(0, 1).price(0), 1);
    }

    private static KnifeTrade homeIs(int things, int home) {
        KnifeTrade x = Rivers.plain(1, things);
        x.put(4, home);
        return x;
    }

    private static void priceRefused() {
        CHECK.about("promise 16, 'NO: .. HOME is not there'");
        for (int things = 1; things <= 6; things++) {
            int t = things;
            CHECK.due("price(0)", homeIs(t, t - 1).price(0), 1);
            if (t < 6) {
                Bounds homeless = new Bounds(CHECK, () -> homeIs(t, t));
                homeless.refused("price(v)", (x, v) -> x.price(v), NO, 0, t - 1);
                CHECK.about("promise 16, BAD comes ahead of NO");
                homeless.beyond("price(v)", (x, v) -> x.price(v), 0, t - 1, BAD);
                CHECK.about("promise 16, 'NO: .. HOME is not there'");
            }
        }
    }

    private static KnifeTrade ring(int a, int b, int otherA, int otherB) {
        KnifeTrade x = river(4, new int[] {1, a, 2, b}, new int[] {2, otherA, 1, otherB});
        x.put(4, 3);
        return x;
    }

    private static void priceWhereARingGains() {
        CHECK.about("promise 16, 'It GAINS, if that is more than 1'");
        // gains just nothing, nearly, and by as little as can be
        CHECK.due("price(0)", ring(1, 1, 1, 1).price(0), 1);
        CHECK.due("price(0)", ring(20, 19, 19, 20).price(0), 1);
        CHECK.due("price(0)", ring(19, 18, 19, 20).price(0), 1);
        CHECK.due("price(0)", ring(20, 1, 20, 1).price(0), 1);
        for (int[] c : new int[][] {{18, 19, 20, 19}, {1, 1, 1, 2}, {1, 20, 1, 20}}) {
            // Neither this thing nor home is on the ring.
            Bounds gains = new Bounds(CHECK, () -> ring(c[0], c[1], c[2], c[3]));
            gains.refused("price(v)", (x, v) -> x.price(v), NO, 0, 1, 2, 3);
            CHECK.about("promise 16, BAD comes ahead of NO");
            gains.beyond("price(v)", (x, v) -> x.price(v), 0, 3, BAD);
            CHECK.about("promise 16, 'It GAINS, if that is more than 1'");
        }
        CHECK.about("promise 16, refused: THE FRACTION is as it was");
        KnifeTrade x = ring(1, 1, 1, 3);
        CHECK.due("ring(NONE)", x.ring(NONE), 2);
        CHECK.due("price(0)", x.price(0), NO);
        CHECK.duePart(x, 3, 1);
        x.put(4, 5);
        CHECK.due("price(0)", x.price(0), NO);
        CHECK.duePart(x, 3, 1);
    }

    private static void duePrices(KnifeTrade x, long... parts) {
        for (int i = 0; i < parts.length / 2; i++) {
            CHECK.due("price(" + i + ")", x.price(i), 1);
            CHECK.duePart(x, parts[2 * i], parts[2 * i + 1]);
        }
    }

    private static void priceOfHome() {
        CHECK.about("promise 16, 'HOME is 1'");
        duePrices(Rivers.plain(1, 1), 1, 1);
        // On a ring that gains just nothing, and on one that loses.
        duePrices(river(2, new int[] {0, 4, 1, 3}, new int[] {1, 3, 0, 4}), 1, 1, 4, 3);
        duePrices(river(2, new int[] {0, 4, 1, 3}, new int[] {1, 4, 0, 3}), 1, 1, 3, 4);
        // However much is given for home.
        duePrices(river(2, new int[] {0, 1, 1, 20}), 1, 1, 0, 1);
    }

    private static void priceOfNothing() {
        CHECK.about("promise 16, '(0: nothing leads to HOME)'");
        // Thing 1 comes from home, things 2 and 3 change into one another.
        KnifeTrade x = river(5, new int[] {0, 1, 1, 20}, new int[] {2, 5, 3, 5}, new int[] {3, 7, 2, 7});
        duePrices(x, 1, 1, 0, 1, 0, 1, 0, 1, 0, 1);
        x.change(0, 3, 20, 0, 1);
        duePrices(x, 1, 1, 0, 1, 1, 20, 1, 20, 0, 1);
    }

    private static void priceIsTheGreatest() {
        CHECK.about("promise 16, 'the greatest of .. over all CHANGES of it'");
        KnifeTrade x = river(4, new int[] {1, 2, 0, 1});
        duePrices(x, 1, 1, 1, 2);
        // A way that gains more, one that gains less, and one that leads nowhere.
        x.change(0, 1, 19, 0, 10);
        duePrices(x, 1, 1, 10, 19);
        x.change(0, 1, 20, 0, 1);
        x.change(0, 1, 1, 2, 20);
        duePrices(x, 1, 1, 10, 19, 0, 1);
        x.change(0, 2, 1, 0, 1);
        duePrices(x, 1, 1, 20, 1, 1, 1, 0, 1);
        x.change(0, 2, 1, 3, 19);
        duePrices(x, 1, 1, 20, 1, 1, 1, 0, 1);
        x.change(0, 3, 19, 0, 20);
        duePrices(x, 1, 1, 400, 1, 20, 1, 20, 19);
    }

    private static void priceOverAllThings() {
        CHECK.about("promise 16, 'B by A times the PRICE of y', over five changes");
        for (int home : new int[] {0, 5}) {
            KnifeTrade x = Rivers.plain(1, 6);
            x.put(4, home);
            for (int i = 0; i < 5; i++) {
                x.change(0, home == 0 ? i + 1 : i, 2, home == 0 ? i : i + 1, 3);
            }
            CHECK.due("price(last)", x.price(5 - home), 1);
            CHECK.duePart(x, 243, 32);
            CHECK.due("price(home)", x.price(home), 1);
            CHECK.duePart(x, 1, 1);
        }
    }

    private static void priceInLowestTerms() {
        CHECK.about("promise 16, 'lowest terms, below above 0'");
        int[][] cases = {{1, 20, 20, 1}, {20, 1, 1, 20}, {20, 20, 1, 1}, {6, 4, 2, 3}, {4, 6, 3, 2},
            {12, 18, 3, 2}, {19, 17, 17, 19}};
        for (int[] c : cases) {
            duePrices(river(2, new int[] {1, c[0], 0, c[1]}), 1, 1, c[2], c[3]);
        }
        CHECK.about("promise 15, 'lowest terms'");
        dueRing(river(2, new int[] {0, 20, 1, 10}, new int[] {1, 20, 0, 8}), 1, 5, 0, 1);
        dueRing(river(2, new int[] {0, 1, 1, 20}, new int[] {1, 1, 0, 20}), 400, 1, 0, 1);
    }
}
