/** Promises 15 and 16: rings and prices. */
public final class RingsTest {
    private static final Check CHECK = new Check();

    public static void main(String[] args) {
        noRing();
        greatestGain();
        fewestChanges();
        firstRow();
        fromItsLeastChange();
        thingsUnlike();
        goneWithAnImage();
        notLookedAt();
        largeRing();
        price();
        priceOverWays();
        priceOfNearOnes();
        largePrice();
        CHECK.end();
    }

    private static KnifeTrade river(int things) {
        return Rivers.plain(2, things);
    }

    /** The ring's changes in their row, and that there are no more. */
    private static void dueRing(KnifeTrade x, long above, long below, int... row) {
        CHECK.due("ring(NONE)", x.ring(-1), row.length);
        CHECK.duePart(x, above, below);
        for (int i = 0; i < row.length; i++) {
            CHECK.due("ring(" + i + ")", x.ring(i), row[i]);
        }
        for (int i = row.length; i < 6; i++) {
            CHECK.due("ring(" + i + ")", x.ring(i), -5);
        }
        CHECK.due("ring(MAX)", x.ring(Integer.MAX_VALUE), -5);
        CHECK.due("ring(-2)", x.ring(-2), -10);
    }

    private static void noRing() {
        CHECK.about("promise 15");
        KnifeTrade x = new KnifeTrade();
        CHECK.due("ring(NONE)", x.ring(-1), -5);
        CHECK.due("ring(0)", x.ring(0), -5);
        CHECK.due("ring(-2)", x.ring(-2), -10);
        CHECK.due("ring(MIN)", x.ring(Integer.MIN_VALUE), -10);
        x = river(3);
        x.change(0, 0, 1, 1, 20);
        x.change(0, 1, 1, 2, 20);
        x.change(0, 0, 1, 2, 20);
        CHECK.due("price(0)", x.price(0), 1);
        CHECK.duePart(x, 1, 1);
        CHECK.due("ring(NONE)", x.ring(-1), -5);
        CHECK.due("ring(0)", x.ring(0), -5);
        CHECK.duePart(x, 1, 1);
    }

    private static void greatestGain() {
        CHECK.about("promise 15");
        KnifeTrade x = river(4);
        x.change(0, 0, 4, 1, 1);
        x.change(0, 1, 1, 0, 2);
        // One that does not gain is a ring, too.
        dueRing(x, 1, 2, 0, 1);
        x.change(1, 1, 2, 2, 3);
        x.change(0, 2, 3, 0, 8);
        dueRing(x, 1, 1, 0, 2, 3);
        x.change(0, 2, 5, 3, 6);
        x.change(0, 3, 4, 2, 5);
        dueRing(x, 3, 2, 4, 5);
        // The fraction is set by NONE alone.
        x.price(9);
        CHECK.due("price(0)", x.price(0), -3);
        x.moves(0, 0, 0, 0);
        x.change(0, 3, 1, 2, 1);
        CHECK.due("ring(0)", x.ring(0), 4);
        CHECK.due("ring(7)", x.ring(7), -5);
        CHECK.duePart(x, 3, 2);
    }

    private static void fewestChanges() {
        CHECK.about("promise 15");
        KnifeTrade x = river(5);
        // Three changes gain 8 by 4, two gain 2 by 1.
        x.change(0, 0, 1, 1, 2);
        x.change(0, 1, 2, 2, 2);
        x.change(0, 2, 2, 0, 2);
        dueRing(x, 2, 1, 0, 1, 2);
        x.change(0, 3, 3, 4, 3);
        x.change(0, 4, 3, 3, 6);
        dueRing(x, 2, 1, 3, 4);
    }

    private static void firstRow() {
        CHECK.about("promise 15");
        KnifeTrade x = river(3);
        x.change(0, 1, 1, 2, 1);
        x.change(0, 0, 1, 1, 1);
        x.change(0, 1, 1, 0, 1);
        x.change(0, 2, 1, 1, 1);
        // 1 2 and 0 3 gain alike.
        dueRing(x, 1, 1, 0, 3);
        x.change(0, 2, 2, 1, 2);
        dueRing(x, 1, 1, 0, 3);
    }

    private static void fromItsLeastChange() {
        CHECK.about("promise 15");
        KnifeTrade x = river(4);
        x.change(0, 3, 1, 1, 1);
        x.change(0, 2, 1, 3, 1);
        x.change(0, 1, 1, 2, 1);
        dueRing(x, 1, 1, 0, 2, 1);
    }

    /** A ring comes to no thing twice: else 0, 3, 4 and 2 together would gain 9 by 4. */
    private static void thingsUnlike() {
        CHECK.about("promise 15");
        KnifeTrade x = river(3);
        x.change(1, 0, 2, 1, 3);
        x.change(0, 1, 2, 2, 2);
        x.change(1, 2, 1, 0, 1);
        x.change(0, 1, 4, 0, 3);
        x.change(1, 0, 1, 2, 2);
        dueRing(x, 2, 1, 2, 4);
        // Nor to one in its midst: else all four would gain 16.
        x = river(3);
        x.change(0, 0, 1, 1, 2);
        x.change(0, 1, 1, 2, 2);
        x.change(0, 2, 1, 1, 2);
        x.change(0, 1, 1, 0, 2);
        dueRing(x, 4, 1, 0, 3);
    }

    private static void goneWithAnImage() {
        CHECK.about("promise 15");
        KnifeTrade x = river(2);
        x.change(0, 0, 1, 1, 2);
        x.image(0);
        x.change(0, 1, 1, 0, 2);
        dueRing(x, 4, 1, 0, 1);
        x.from(0);
        CHECK.due("ring(NONE)", x.ring(-1), -5);
        CHECK.due("ring(0)", x.ring(0), -5);
        CHECK.due("price(0)", x.price(0), 1);
        CHECK.duePart(x, 1, 1);
    }

    private static void notLookedAt() {
        CHECK.about("promise 15");
        KnifeTrade x = river(2);
        x.change(0, 0, 1, 1, 2);
        x.change(1, 1, 1, 0, 2);
        x.moves(0, 1, 1, 0);
        x.moves(1, 1, 1, 0);
        x.put(5, 0);
        x.put(1, 6);
        dueRing(x, 4, 1, 0, 1);
    }

    private static void largeRing() {
        CHECK.about("promise 15");
        KnifeTrade x = river(6);
        for (int i = 0; i < 6; i++) {
            x.change(i % 2, i, i == 0 ? 19 : 20, (i + 1) % 6, i == 5 ? 19 : 20);
        }
        dueRing(x, 1, 1, 0, 1, 2, 3, 4, 5);
        x.change(0, 5, 19, 0, 19);
        x.change(0, 5, 1, 0, 20);
        dueRing(x, 400, 19, 0, 1, 2, 3, 4, 7);
    }

    private static void duePrice(KnifeTrade x, int thing, long above, long below) {
        CHECK.due("price(" + thing + ")", x.price(thing), 1);
        CHECK.duePart(x, above, below);
    }

    private static void price() {
        CHECK.about("promise 16");
        KnifeTrade x = river(4);
        x.put(4, 2);
        x.change(0, 0, 6, 1, 4);
        x.change(1, 1, 9, 2, 6);
        x.change(0, 2, 1, 3, 20);
        duePrice(x, 0, 4, 9);
        duePrice(x, 1, 2, 3);
        duePrice(x, 2, 1, 1);
        // Nothing leads to home from it.
        duePrice(x, 3, 0, 1);
        x.put(4, 3);
        duePrice(x, 0, 80, 9);
        x.put(4, 0);
        duePrice(x, 0, 1, 1);
        duePrice(x, 1, 0, 1);
        // Neither most nor the post nor how it moves is looked at.
        x.put(4, 2);
        x.moves(0, 1, 1, 0);
        x.put(5, 1);
        duePrice(x, 0, 4, 9);
    }

    private static void priceOverWays() {
        CHECK.about("promise 16");
        KnifeTrade x = river(6);
        x.put(4, 5);
        x.change(0, 4, 1, 5, 1);
        x.change(0, 3, 1, 4, 2);
        x.change(0, 2, 1, 3, 2);
        x.change(0, 1, 1, 2, 2);
        x.change(0, 0, 1, 1, 2);
        x.change(0, 0, 1, 5, 15);
        duePrice(x, 0, 16, 1);
        x.change(0, 0, 1, 5, 17);
        duePrice(x, 0, 17, 1);
        x.change(0, 4, 20, 5, 19);
        duePrice(x, 4, 1, 1);
        // A ring that gains just nothing is no way to gain; home stays 1.
        x.change(0, 5, 17, 0, 1);
        duePrice(x, 0, 17, 1);
        duePrice(x, 5, 1, 1);
        duePrice(x, 1, 8, 1);
        x = river(3);
        x.change(0, 0, 2, 1, 1);
        x.change(0, 1, 1, 0, 1);
        x.change(0, 1, 1, 2, 5);
        duePrice(x, 0, 1, 1);
        duePrice(x, 1, 1, 1);
        duePrice(x, 2, 0, 1);
    }

    /** The greatest of ways that gain nearly alike, in each order. */
    private static void priceOfNearOnes() {
        CHECK.about("promise 16");
        int[][] falling = {{19, 20}, {4, 5}, {7, 9}, {3, 4}, {2, 3}, {13, 20}, {1, 20}};
        for (int i = 0; i < falling.length - 1; i++) {
            int[] more = falling[i];
            int[] less = falling[i + 1];
            KnifeTrade x = river(2);
            x.put(4, 1);
            x.change(0, 0, more[1], 1, more[0]);
            x.change(0, 0, less[1], 1, less[0]);
            duePrice(x, 0, more[0], more[1]);
            x = river(2);
            x.put(4, 1);
            x.change(0, 0, less[1], 1, less[0]);
            x.change(0, 0, more[1], 1, more[0]);
            duePrice(x, 0, more[0], more[1]);
        }
    }

    private static void largePrice() {
        CHECK.about("promise 16");
        KnifeTrade x = river(6);
        for (int i = 0; i < 5; i++) {
            x.change(0, i, i % 2 == 0 ? 19 : 17, i + 1, 20);
        }
        x.put(4, 5);
        duePrice(x, 0, 3200000, 19L * 17 * 19 * 17 * 19);
        x.put(4, 0);
        duePrice(x, 5, 0, 1);
    }
}
