import java.io.IOException;
import java.lang.reflect.Method;
import java.lang.reflect.Modifier;
import java.nio.file.Files;
import java.nio.file.Path;
import java.util.regex.Matcher;
import java.util.regex.Pattern;

/** What README.md says: its example answers as told there, and its table has each call. */
public final class ReadmeTest {
    private static final Check CHECK = new Check();
    private static final Pattern CALL = Pattern.compile("(?m)^x\\.(\\w+)\\((.*)\\); *// (-?\\d+): ");
    private static final Pattern ROW = Pattern.compile("(?m)^\\| `(\\w+)\\(([^)]*)\\)` \\|");

    public static void main(String[] args) throws IOException, ReflectiveOperationException {
        String text = Files.readString(Path.of("README.md"));
        example(text);
        table(text);
        CHECK.end();
    }

    private static void example(String text) throws ReflectiveOperationException {
        CHECK.about("the example of README.md");
        KnifeTrade x = new KnifeTrade();
        Matcher call = CALL.matcher(text);
        int calls = 0;
        while (call.find()) {
            long got = answered(x, call.group(1), call.group(2));
            CHECK.due(call.group(1) + "(" + call.group(2) + ")", got, Long.parseLong(call.group(3)));
            calls++;
        }
        long lines = text.lines().filter(line -> line.startsWith("x.")).count();
        CHECK.due("lines of it that were called", calls, lines);
        CHECK.due("is there one", calls > 0 ? 1 : 0, 1);
    }

    private static long answered(KnifeTrade x, String name, String told)
            throws ReflectiveOperationException {
        String[] words = told.isEmpty() ? new String[0] : told.split(", ");
        Method method = named(name);
        Object[] values = new Object[words.length];
        for (int i = 0; i < words.length; i++) {
            long v = value(words[i]);
            boolean isLong = method.getParameterTypes()[i] == long.class;
            values[i] = isLong ? (Object) v : (Object) (int) v;
        }
        return ((Number) method.invoke(x, values)).longValue();
    }

    private static long value(String word) {
        return word.equals("KnifeTrade.NONE") ? KnifeTrade.NONE : Long.decode(word.replace("L", ""));
    }

    private static Method named(String name) {
        for (Method method : KnifeTrade.class.getDeclaredMethods()) {
            if (Modifier.isPublic(method.getModifiers()) && method.getName().equals(name)) {
                return method;
            }
        }
        throw new IllegalArgumentException("there is no call " + name);
    }

    private static void table(String text) {
        CHECK.about("the table of README.md");
        Matcher row = ROW.matcher(text);
        int rows = 0;
        while (row.find()) {
            String told = row.group(2);
            int numbers = told.isEmpty() ? 0 : told.split(", ").length;
            CHECK.due(row.group(1), numbers, named(row.group(1)).getParameterCount());
            rows++;
        }
        long calls = 0;
        for (Method method : KnifeTrade.class.getDeclaredMethods()) {
            calls += Modifier.isPublic(method.getModifiers()) ? 1 : 0;
        }
        CHECK.due("rows of it", rows, calls);
    }
}
