import java.util.ArrayList;
import java.util.List;
import java.util.function.Supplier;

/**
 * Asks a call for the numbers at both ends of what is allowed and for those beside them, each time
 * on a new object. A refused call must leave no trace in all that the object answers.
 */
final class Bounds {
    /** A call with one number that may be too small or too large. */
    interface Call {
        long of(KnifeTrade x, int v);
    }

    private final Check check;
    private final Supplier<KnifeTrade> made;
    private final List<Long> untouched;

    Bounds(Check check, Supplier<KnifeTrade> made) {
        this.check = check;
        this.made = made;
        untouched = everything(made.get());
    }

    /** From least to most it is taken; beside them, and far off, it is refused. */
    void range(String name, Call call, int least, int most, long taken, long refused) {
        taken(name, call, taken, least, most);
        beyond(name, call, least, most, refused);
    }

    /** Refused below the least and above the most. */
    void beyond(String name, Call call, int least, int most, long refused) {
        refused(name, call, refused, Integer.MIN_VALUE, least - 1, most + 1, Integer.MAX_VALUE);
    }

    void taken(String name, Call call, long due, int... values) {
        for (int v : values) {
            check.due(name + " of " + v, call.of(made.get(), v), due);
        }
    }

    void refused(String name, Call call, long due, int... values) {
        for (int v : values) {
            KnifeTrade x = made.get();
            check.due(name + " of " + v, call.of(x, v), due);
            if (!everything(x).equals(untouched)) {
                check.fail(name + " of " + v + " was refused, but changed something");
            }
        }
    }

    /** The call answers this, and changes nothing: one that asks, or one without a number. */
    void unchanged(String name, Call call, long due) {
        refused(name, call, due, 0);
    }

    /** What the object answers, its images too; nothing is left of it as it was. */
    private static List<Long> everything(KnifeTrade x) {
        List<Long> all = new ArrayList<>();
        addAnswers(all, x);
        for (int i = 0; i < 2; i++) {
            all.add((long) x.from(i));
            addAnswers(all, x);
        }
        return all;
    }

    private static void addAnswers(List<Long> all, KnifeTrade x) {
        all.add(x.digest());
        for (int text = 0; text < 2; text++) {
            all.add((long) x.fault(text));
            for (int i = 0; i < 6; i++) {
                all.add((long) x.run(text, i));
                all.add((long) x.load(text, i));
            }
        }
        for (int i = 0; i < 10; i++) {
            all.add((long) x.rival(3, i));
            all.add((long) x.rate(i, 9, 5));
            all.add((long) x.waits(i, 9));
            all.add((long) x.latest(i));
        }
        for (int i = -1; i < 5; i++) {
            all.add((long) x.best(3, i));
            // The fraction that this sets is looked at here, too.
            all.add((long) x.ring(i));
        }
        all.add(x.digest());
    }
}
