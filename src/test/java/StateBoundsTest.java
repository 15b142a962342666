/** Promises 25 to 29: each bound that is told of the fraction, of images, counts and the digest. */
public final class StateBoundsTest {
    private static final int BAD = KnifeTrade.BAD;
    private static final int NO = KnifeTrade.NO;
    private static final int FULL = KnifeTrade.FULL;
    private static final int NONE = KnifeTrade.NONE;

    private static final Check CHECK = new Check();
    private static final Bounds EMPTY = new Bounds(CHECK, KnifeTrade::new);
    private static final Bounds RICH = new Bounds(CHECK, Rivers::rich);
    private static final Bounds WHOLE = new Bounds(CHECK, Rivers::full);

    public static void main(String[] args) {
        part();
        partAtFirst();
        image();
        from();
        fromAnImageThatWasNotKept();
        eachImageIsItsOwn();
        imageInPlaceOfAnother();
        imageOfAllButThem();
        imageOfAnEmptyOne();
        imageOfAFullOne();
        count();
        countOfEmptyAndFull();
        digestOfNothing();
        digestOfTheLeast();
        digestOfTheMost();
        digestWhereNoneWasTold();
        CHECK.end();
    }

    private static void part() {
        CHECK.about("promise 25, 'BAD: -1'");
        RICH.beyond("part(v)", (x, v) -> x.part(v), 0, 1, -1);
        EMPTY.beyond("part(v)", (x, v) -> x.part(v), 0, 1, -1);
        RICH.unchanged("part(0)", (x, v) -> x.part(0), 3);
        RICH.unchanged("part(1)", (x, v) -> x.part(1), 4);
    }

    private static void partAtFirst() {
        CHECK.about("promise 25, 'THE FRACTION is 0 by 1 at first'");
        EMPTY.unchanged("part(0)", (x, v) -> x.part(0), 0);
        EMPTY.unchanged("part(1)", (x, v) -> x.part(1), 1);
        CHECK.about("promise 25, 0 is told by 0 by 1");
        KnifeTrade x = Rivers.rich();
        x.put(4, 2);
        CHECK.due("price(0)", x.price(0), 1);
        CHECK.duePart(x, 0, 1);
    }

    private static void image() {
        CHECK.about("promise 26, 'An IMAGE 0, 1'");
        EMPTY.range("image(v)", (x, v) -> x.image(v), 0, 1, 1, BAD);
        RICH.range("image(v)", (x, v) -> x.image(v), 0, 1, 1, BAD);
        WHOLE.range("image(v)", (x, v) -> x.image(v), 0, 1, 1, BAD);
    }

    private static void from() {
        CHECK.about("promise 27, 'It goes on from an IMAGE'");
        RICH.range("from(v)", (x, v) -> x.from(v), 0, 1, 1, BAD);
        CHECK.about("promise 27, BAD comes ahead of NO");
        EMPTY.beyond("from(v)", (x, v) -> x.from(v), 0, 1, BAD);
        WHOLE.beyond("from(v)", (x, v) -> x.from(v), 0, 1, BAD);
    }

    private static void fromAnImageThatWasNotKept() {
        CHECK.about("promise 27, 'NO: none was kept'");
        EMPTY.refused("from(v)", (x, v) -> x.from(v), NO, 0, 1);
        WHOLE.refused("from(v)", (x, v) -> x.from(v), NO, 0, 1);
        for (int i = 0; i < 2; i++) {
            KnifeTrade x = Rivers.full();
            // A refused image is none.
            CHECK.due("image(2)", x.image(2), BAD);
            CHECK.due("from(" + i + ")", x.from(i), NO);
            CHECK.due("image(" + i + ")", x.image(i), 1);
            CHECK.due("from(other)", x.from(1 - i), NO);
            CHECK.due("from(" + i + ")", x.from(i), 1);
        }
    }

    private static void eachImageIsItsOwn() {
        CHECK.about("promises 26, 27: each image is kept for itself");
        KnifeTrade x = new KnifeTrade();
        long[] digests = new long[2];
        for (int i = 0; i < 2; i++) {
            x.landing(2, 3);
            x.thing(4, 5);
            x.start(0, 6 + i);
            x.type(0, 'a' + i, 1);
            digests[i] = x.digest();
            CHECK.due("image(" + i + ")", x.image(i), 1);
        }
        x.landing(1, 1);
        for (int i : new int[] {0, 1, 1, 0, 0, 1}) {
            CHECK.due("from(" + i + ")", x.from(i), 1);
            CHECK.due("digest()", x.digest(), digests[i]);
            // What is told behind it does not come into the image.
            x.put(0, 7);
            x.start(0, 99);
            x.type(0, 'z', 1);
            x.landing(9, 9);
        }
    }

    private static void imageInPlaceOfAnother() {
        CHECK.about("promise 26, a second image in the first one's place");
        KnifeTrade x = Rivers.full();
        x.image(0);
        x.image(1);
        long before = x.digest();
        x.clear(0);
        x.start(5, 1);
        long behind = x.digest();
        CHECK.due("image(0)", x.image(0), 1);
        x.start(5, 2);
        CHECK.due("from(1)", x.from(1), 1);
        CHECK.due("digest()", x.digest(), before);
        CHECK.due("from(0)", x.from(0), 1);
        CHECK.due("digest()", x.digest(), behind);
        // Of a smaller river nothing of the larger one stays.
        KnifeTrade y = new KnifeTrade();
        long empty = y.digest();
        y.image(1);
        y.landing(1, 1);
        y.thing(1, 1);
        y.type(1, 7, 8);
        y.image(0);
        CHECK.due("from(1)", y.from(1), 1);
        CHECK.due("image(0)", y.image(0), 1);
        y.landing(1, 1);
        CHECK.due("from(0)", y.from(0), 1);
        CHECK.due("digest()", y.digest(), empty);
    }

    private static void imageOfAllButThem() {
        CHECK.about("promise 26, 'of all but them, THE FRACTION'");
        KnifeTrade x = Rivers.rich();
        CHECK.duePart(x, 3, 4);
        CHECK.due("image(0)", x.image(0), 1);
        CHECK.due("price(1)", x.price(1), 1);
        CHECK.duePart(x, 1, 1);
        CHECK.due("from(0)", x.from(0), 1);
        CHECK.duePart(x, 1, 1);
        CHECK.due("ring(NONE)", x.ring(NONE), 2);
        CHECK.due("from(1)", x.from(1), 1);
        CHECK.duePart(x, 3, 4);
        CHECK.about("promise 26, images are no part of an image");
        KnifeTrade y = new KnifeTrade();
        y.image(0);
        y.landing(1, 1);
        y.image(1);
        CHECK.due("from(0)", y.from(0), 1);
        CHECK.due("from(1)", y.from(1), 1);
        CHECK.due("count(0)", y.count(0), 1);
    }

    private static void imageOfAnEmptyOne() {
        CHECK.about("promise 27, from an image in which nothing is");
        KnifeTrade x = new KnifeTrade();
        long empty = x.digest();
        x.image(0);
        KnifeTrade full = Rivers.full();
        x.from(0);
        CHECK.due("digest()", x.digest(), empty);
        CHECK.due("landing(1, 1)", x.landing(1, 1), 0);
        CHECK.due("from(0)", x.from(0), 1);
        CHECK.due("count(0)", x.count(0), 0);
        CHECK.due("landing(0, 0)", x.landing(0, 0), 0);
        CHECK.due("landing(0, 0)", x.landing(0, 0), BAD);
        CHECK.due("put(5, 1)", x.put(5, 1), -10);
        CHECK.due("put(2, 0)", x.put(2, 0), -10);
        CHECK.due("landing(1, 1) where it is full", full.landing(1, 1), FULL);
    }

    private static void imageOfAFullOne() {
        CHECK.about("promise 27, from an image that is full, and back");
        KnifeTrade x = new KnifeTrade();
        x.image(1);
        for (int i = 0; i < 6; i++) {
            x.landing(1, 1);
            x.thing(1, 1);
        }
        for (int i = 0; i < 8; i++) {
            x.change(5, 5, 1, 4, 1);
        }
        x.put(2, 5);
        x.put(5, 5);
        for (int i = 0; i < 20; i++) {
            x.type(1, Check.packed("wait  1;"), 8);
        }
        long full = x.digest();
        x.image(0);
        for (int i = 0; i < 3; i++) {
            CHECK.due("from(1)", x.from(1), 1);
            CHECK.due("type(1, 7, 1)", x.type(1, 7, 1), 1);
            CHECK.due("thing(1, 1)", x.thing(1, 1), 0);
            CHECK.due("from(0)", x.from(0), 1);
            CHECK.due("digest()", x.digest(), full);
            CHECK.due("landing(1, 1)", x.landing(1, 1), FULL);
            CHECK.due("thing(1, 1)", x.thing(1, 1), FULL);
            CHECK.due("change(5, 5, 1, 4, 1)", x.change(5, 5, 1, 4, 1), FULL);
            CHECK.due("type(1, 7, 1)", x.type(1, 7, 1), FULL);
        }
    }

    private static void count() {
        CHECK.about("promise 28, 'BAD'");
        EMPTY.range("count(v)", (x, v) -> x.count(v), 0, 4, 0, BAD);
        RICH.beyond("count(v)", (x, v) -> x.count(v), 0, 4, BAD);
        WHOLE.beyond("count(v)", (x, v) -> x.count(v), 0, 4, BAD);
    }

    private static void countOfEmptyAndFull() {
        CHECK.about("promise 28, 'How many'");
        int[] full = {6, 6, 8, 160, 160};
        int[] some = {3, 3, 2, 25, 17};
        for (int what = 0; what < 5; what++) {
            int w = what;
            EMPTY.unchanged("count(" + w + ")", (x, v) -> x.count(w), 0);
            RICH.unchanged("count(" + w + ")", (x, v) -> x.count(w), some[w]);
            WHOLE.unchanged("count(" + w + ")", (x, v) -> x.count(w), full[w]);
        }
        CHECK.about("promise 28, refused calls add nothing");
        KnifeTrade x = Rivers.full();
        x.landing(1, 1);
        x.thing(1, 1);
        x.change(0, 0, 1, 1, 1);
        x.type(0, 7, 1);
        x.type(1, 7, 8);
        for (int what = 0; what < 5; what++) {
            CHECK.due("count(" + what + ")", x.count(what), full[what]);
        }
    }

    private static void digestOfNothing() {
        CHECK.about("promise 29, of a new object");
        long h = Check.mixed(0, 0, 0, 0, 0, 100, 2, -1, 100, 0, -1, 0, 1);
        CHECK.due("digest()", new KnifeTrade().digest(), h);
        EMPTY.unchanged("digest() less what is due", (x, v) -> x.digest() - h, 0);
    }

    private static void digestOfTheLeast() {
        CHECK.about("promise 29, each value the least there can be");
        KnifeTrade x = new KnifeTrade();
        x.landing(1, 1);
        x.landing(1, 1);
        x.thing(1, 0);
        x.thing(1, 0);
        x.greeting(0, 0, 0, 0, 0, 0);
        x.greeting(1, 0, 0, 0, 0, 0);
        x.change(0, 0, 1, 1, 1);
        x.moves(0, 0, 0, 0);
        int[] least = {1, 1, NONE, 1, 0, NONE};
        for (int what = 0; what < 6; what++) {
            x.put(what, least[what]);
        }
        x.type(0, 0, 1);
        CHECK.due("digest()", x.digest(), Check.mixed(2, 2, 1, 1, 0,
                0, 0, 0, 0, 0, 0, 0, 1, 1, 0, 0, 0, 0, 0,
                1, 0, 0, 1, 0, 0,
                1, 1, -1, 1, 0, -1,
                0, 0, 1, 1, 1, 0, 0, 0,
                0,
                0, 1));
    }

    private static void digestOfTheMost() {
        CHECK.about("promise 29, each value the most there can be");
        KnifeTrade x = new KnifeTrade();
        long[] all = new long[5 + 42 + 18 + 6 + 64 + 320 + 2];
        int at = 0;
        for (long v : new long[] {6, 6, 8, 160, 160}) {
            all[at++] = v;
        }
        for (int i = 0; i < 6; i++) {
            x.landing(9, 9);
            x.thing(20, 50);
            x.start(i, 99);
        }
        for (int i = 0; i < 6; i++) {
            x.greeting(i, 5, 20, 5, 40, 90);
            for (long v : new long[] {i == 0 ? 0 : 9, i == 0 ? 0 : 9, 5, 20, 5, 40, 90}) {
                all[at++] = v;
            }
        }
        for (int i = 0; i < 6; i++) {
            for (long v : new long[] {20, 50, 99}) {
                all[at++] = v;
            }
        }
        int[] most = {500, 6, 5, 400, 5, 5};
        for (int what = 0; what < 6; what++) {
            x.put(what, most[what]);
            all[at++] = most[what];
        }
        for (int i = 0; i < 8; i++) {
            int from = i < 7 ? 5 : 4;
            int to = i < 7 ? 4 : 5;
            x.change(5, from, 20, to, 20);
            x.moves(i, 9, 30, 99);
            for (long v : new long[] {5, from, 20, to, 20, 9, 30, 99}) {
                all[at++] = v;
            }
        }
        for (int i = 0; i < 40; i++) {
            x.type(i / 20, -1, 8);
        }
        for (int i = 0; i < 320; i++) {
            all[at++] = 255;
        }
        // One ring gains just nothing: its gain is 1 by 1.
        CHECK.due("ring(NONE)", x.ring(NONE), 2);
        all[at++] = 1;
        all[at++] = 1;
        CHECK.due("digest()", x.digest(), Check.mixed(all));
    }

    private static void digestWhereNoneWasTold() {
        CHECK.about("promise 29, '(0 where none was told)'");
        KnifeTrade x = new KnifeTrade();
        x.landing(7, 8);
        x.landing(5, 6);
        x.thing(2, 3);
        CHECK.due("digest()", x.digest(), Check.mixed(2, 1, 0, 0, 0,
                0, 0, 0, 0, 0, 0, 0, 5, 6, 0, 0, 0, 0, 0,
                2, 3, 0,
                100, 2, -1, 100, 0, -1,
                0, 1));
        // It is told again: the new one stands.
        x.greeting(1, 0, 20, 0, 40, 90);
        x.greeting(1, 0, 1, 0, 2, 3);
        CHECK.due("digest()", x.digest(), Check.mixed(2, 1, 0, 0, 0,
                0, 0, 0, 0, 0, 0, 0, 5, 6, 0, 1, 0, 2, 3,
                2, 3, 0,
                100, 2, -1, 100, 0, -1,
                0, 1));
    }
}
