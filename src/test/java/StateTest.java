/** Promises 25 to 29: the fraction, images, counts, the digest. */
public final class StateTest {
    private static final Check CHECK = new Check();

    public static void main(String[] args) {
        part();
        images();
        imageWithoutFraction();
        imagesLeaveNothingBehind();
        imageOfNothing();
        count();
        digest();
        refusedChangesNothing();
        CHECK.end();
    }

    private static KnifeTrade river() {
        KnifeTrade x = new KnifeTrade();
        x.landing(0, 0);
        x.landing(4, 3);
        x.thing(2, 5);
        x.thing(7, 0);
        x.start(0, 9);
        x.change(1, 0, 6, 1, 4);
        x.change(0, 1, 2, 0, 2);
        x.moves(0, 2, 3, 8);
        x.greeting(1, 1, 0, 0, 6, 12);
        x.put(2, 0);
        x.put(5, 1);
        Check.tell(x, 0, "up; do 0 1;");
        Check.tell(x, 1, "down");
        return x;
    }

    private static void part() {
        CHECK.about("promise 25");
        KnifeTrade x = river();
        CHECK.duePart(x, 0, 1);
        CHECK.due("part(-1)", x.part(-1), -1);
        CHECK.due("part(2)", x.part(2), -1);
        CHECK.due("part(MIN)", x.part(Integer.MIN_VALUE), -1);
        CHECK.due("ring(-1)", x.ring(-1), 2);
        CHECK.duePart(x, 2, 3);
        CHECK.due("price(0)", x.price(0), 1);
        CHECK.duePart(x, 1, 1);
        CHECK.due("price(9)", x.price(9), -2);
        CHECK.due("ring(1)", x.ring(1), 1);
        CHECK.duePart(x, 1, 1);
        x.thing(1, 0);
        CHECK.due("price(2)", x.price(2), 1);
        CHECK.duePart(x, 0, 1);
    }

    private static void images() {
        CHECK.about("promises 26, 27");
        KnifeTrade x = river();
        for (int i : new int[] {-1, 2, Integer.MIN_VALUE, Integer.MAX_VALUE}) {
            CHECK.due("image(" + i + ")", x.image(i), -2);
            CHECK.due("from(" + i + ")", x.from(i), -2);
        }
        CHECK.due("from(1)", x.from(1), -3);
        long first = x.digest();
        CHECK.due("image(1)", x.image(1), 1);
        CHECK.due("digest()", x.digest(), first);
        CHECK.due("from(0)", x.from(0), -3);
        x.landing(1, 1);
        x.thing(1, 1);
        x.change(2, 2, 2, 0, 2);
        x.start(0, 8);
        x.greeting(1, 0, 1, 1, 1, 1);
        x.put(0, 7);
        x.moves(1, 1, 1, 1);
        Check.tell(x, 0, "wait 1;");
        x.clear(1);
        long second = x.digest();
        CHECK.due("image(0)", x.image(0), 1);
        CHECK.due("from(1)", x.from(1), 1);
        CHECK.due("digest()", x.digest(), first);
        CHECK.due("count(0)", x.count(0), 2);
        CHECK.due("count(4)", x.count(4), 4);
        // Images are no part of an image: both are there still.
        CHECK.due("from(0)", x.from(0), 1);
        CHECK.due("digest()", x.digest(), second);
        x.put(0, 8);
        CHECK.due("from(0)", x.from(0), 1);
        CHECK.due("digest()", x.digest(), second);
        CHECK.due("from(1)", x.from(1), 1);
        CHECK.due("digest()", x.digest(), first);
        // A new image in place of an old one.
        CHECK.due("image(0)", x.image(0), 1);
        x.put(0, 9);
        CHECK.due("from(0)", x.from(0), 1);
        CHECK.due("digest()", x.digest(), first);
    }

    private static void imageWithoutFraction() {
        CHECK.about("promises 26, 27");
        KnifeTrade x = river();
        x.image(0);
        x.ring(-1);
        CHECK.due("from(0)", x.from(0), 1);
        CHECK.duePart(x, 2, 3);
        x.image(0);
        x.price(0);
        CHECK.due("from(0)", x.from(0), 1);
        CHECK.duePart(x, 1, 1);
    }

    /** What comes behind an image's last rows is as new. */
    private static void imagesLeaveNothingBehind() {
        CHECK.about("promise 27");
        KnifeTrade x = new KnifeTrade();
        x.image(0);
        long empty = x.digest();
        x.landing(0, 0);
        x.landing(5, 5);
        x.thing(3, 3);
        x.thing(4, 4);
        x.start(0, 50);
        x.start(1, 50);
        x.greeting(0, 0, 5, 1, 5, 5);
        x.greeting(1, 0, 5, 1, 5, 5);
        x.change(0, 0, 3, 1, 3);
        x.moves(0, 4, 4, 4);
        x.from(0);
        CHECK.due("digest()", x.digest(), empty);
        KnifeTrade y = new KnifeTrade();
        for (KnifeTrade z : new KnifeTrade[] {x, y}) {
            z.landing(0, 0);
            z.landing(1, 1);
            z.thing(1, 0);
            z.thing(1, 0);
            z.change(0, 0, 1, 1, 1);
        }
        CHECK.due("digest()", x.digest(), y.digest());
        CHECK.dueRun(x, "up; down;", 2, 0, 2, 0);
        CHECK.dueLoads(x, 0, 0);
        CHECK.due("rate(0, 99, 0)", x.rate(0, 99, 0), 1);
    }

    private static void imageOfNothing() {
        CHECK.about("promise 27");
        KnifeTrade x = new KnifeTrade();
        x.image(1);
        x.landing(0, 0);
        x.thing(1, 0);
        x.put(5, 0);
        x.put(2, 0);
        CHECK.due("from(1)", x.from(1), 1);
        CHECK.due("run(0, 0)", x.run(0, 0), -3);
        CHECK.due("best(4, -1)", x.best(4, -1), -20);
        CHECK.due("put(5, -1)", x.put(5, -1), -1);
        CHECK.due("put(2, -1)", x.put(2, -1), -1);
        CHECK.due("start(0, 1)", x.start(0, 1), -2);
    }

    private static void count() {
        CHECK.about("promise 28");
        KnifeTrade x = river();
        CHECK.due("count(0)", x.count(0), 2);
        x.thing(1, 1);
        CHECK.due("count(1)", x.count(1), 3);
        x.change(0, 0, 1, 1, 1);
        x.change(0, 0, 1, 1, 1);
        CHECK.due("count(2)", x.count(2), 4);
        CHECK.due("count(3)", x.count(3), 11);
        CHECK.due("count(4)", x.count(4), 4);
        CHECK.due("count(-1)", x.count(-1), -2);
        CHECK.due("count(5)", x.count(5), -2);
    }

    private static void digest() {
        CHECK.about("promise 29");
        KnifeTrade x = new KnifeTrade();
        long empty = Check.mixed(0, 0, 0, 0, 0, 100, 2, -1, 100, 0, -1, 0, 1);
        CHECK.due("digest()", x.digest(), empty);
        x = river();
        x.ring(-1);
        long due = Check.mixed(2, 2, 2, 11, 4,
                0, 0, 0, 0, 0, 0, 0, 4, 3, 1, 0, 0, 6, 12,
                2, 5, 9, 7, 0, 0,
                100, 2, 0, 100, 0, 1,
                1, 0, 6, 1, 4, 2, 3, 8, 0, 1, 2, 0, 2, 0, 0, 99,
                'u', 'p', ';', ' ', 'd', 'o', ' ', '0', ' ', '1', ';', 'd', 'o', 'w', 'n',
                2, 3);
        CHECK.due("digest()", x.digest(), due);
        CHECK.due("digest()", x.digest(), due);
    }

    /** Neither a refused call nor one that only asks changes what is told. */
    private static void refusedChangesNothing() {
        CHECK.about("promise 29");
        KnifeTrade x = river();
        long before = x.digest();
        x.landing(0, 0);
        x.thing(0, 0);
        x.put(1, 9);
        x.change(0, 0, 1, 0, 1);
        x.moves(0, 10, 0, 0);
        x.greeting(9, 0, 0, 0, 0, 0);
        x.start(0, 100);
        x.type(0, 7, 9);
        x.clear(2);
        x.from(0);
        CHECK.due("digest()", x.digest(), before);
        for (int v = -1; v <= 4; v++) {
            x.fault(v);
            x.run(0, v);
            x.load(0, v);
            x.rival(3, v);
            x.best(v, v);
            x.worth(v, 3);
            x.lack(v);
            x.crew(v);
            x.where(v);
            x.latest(v);
            x.rate(v, 1, 1);
            x.waits(v, 1);
            x.part(v);
            x.image(v);
            x.count(v);
        }
        CHECK.due("digest()", x.digest(), before);
    }
}
