import java.io.IOException;
import java.lang.reflect.Constructor;
import java.lang.reflect.Field;
import java.lang.reflect.Member;
import java.lang.reflect.Method;
import java.lang.reflect.Modifier;
import java.nio.file.Files;
import java.nio.file.Path;
import java.util.ArrayList;
import java.util.List;
import java.util.TreeSet;
import java.util.regex.Matcher;
import java.util.regex.Pattern;

/** The face as the document tells it, and what of LANGUAGE.md can be seen without a compiler. */
public final class LanguageTest {
    private static final Check CHECK = new Check();

    private static final String FACE = "landing(int,int)int thing(int,int)int put(int,int)int "
            + "change(int,int,int,int,int)int moves(int,int,int,int)int "
            + "greeting(int,int,int,int,int,int)int start(int,int)int type(int,long,int)int "
            + "clear(int)int fault(int)int run(int,int)int load(int,int)int rival(int,int)int "
            + "ring(int)int price(int)int best(int,int)int worth(int,int)int lack(int)int "
            + "crew(int)int where(int)int latest(int)int rate(int,int,int)int waits(int,int)int "
            + "part(int)long image(int)int from(int)int count(int)int digest()long";

    public static void main(String[] args) throws IOException {
        face();
        classesInside();
        words();
        lengths();
        CHECK.end();
    }

    private static void face() {
        CHECK.about("rule 1");
        int type = KnifeTrade.class.getModifiers();
        CHECK.due("public final class", Modifier.isPublic(type) && Modifier.isFinal(type) ? 1 : 0, 1);
        TreeSet<String> told = new TreeSet<>(List.of(FACE.split(" ")));
        TreeSet<String> there = new TreeSet<>();
        TreeSet<String> names = new TreeSet<>();
        for (Method m : KnifeTrade.class.getDeclaredMethods()) {
            if (isSeen(m)) {
                there.add(signature(m));
                names.add(m.getName());
            }
        }
        if (!told.equals(there)) {
            CHECK.fail("the face is " + there);
        }
        dueOtherNames(KnifeTrade.class, names);
        for (Class<?> inside : KnifeTrade.class.getDeclaredClasses()) {
            dueOtherNames(inside, names);
        }
        TreeSet<String> fields = new TreeSet<>();
        for (Field f : KnifeTrade.class.getDeclaredFields()) {
            if (isSeen(f)) {
                fields.add(f.getName());
            }
        }
        if (!fields.equals(new TreeSet<>(List.of("NONE", "BAD", "NO", "FULL")))) {
            CHECK.fail("the constants are " + fields);
        }
        Constructor<?>[] made = KnifeTrade.class.getDeclaredConstructors();
        CHECK.due("constructors", made.length, 1);
        CHECK.due("its parameters", made[0].getParameterCount(), 0);
    }

    /** No method but those of the face bears the name of one of them. */
    private static void dueOtherNames(Class<?> c, TreeSet<String> names) {
        for (Method m : c.getDeclaredMethods()) {
            if ((c != KnifeTrade.class || !isSeen(m)) && names.contains(m.getName())) {
                CHECK.fail(c + " has a method of the public name " + m.getName());
            }
        }
    }

    private static boolean isSeen(Member m) {
        return !Modifier.isPrivate(m.getModifiers()) && !m.isSynthetic();
    }

    private static String signature(Method m) {
        List<String> types = new ArrayList<>();
        for (Class<?> type : m.getParameterTypes()) {
            types.add(type.getName());
        }
        return m.getName() + "(" + String.join(",", types) + ")" + m.getReturnType().getName();
    }

    private static void classesInside() {
        CHECK.about("rules 2, 5 and 11");
        Class<?>[] inside = KnifeTrade.class.getDeclaredClasses();
        CHECK.due("twelve classes at most", Math.max(12, inside.length + 1), 12);
        lookAt(KnifeTrade.class);
        for (Class<?> c : inside) {
            if (!Modifier.isStatic(c.getModifiers())) {
                CHECK.fail(c + " is not static");
            }
            lookAt(c);
        }
    }

    private static void lookAt(Class<?> c) {
        int own = 0;
        for (Field f : c.getDeclaredFields()) {
            boolean isStatic = Modifier.isStatic(f.getModifiers());
            own += isStatic ? 0 : 1;
            if (isStatic && !Modifier.isFinal(f.getModifiers())) {
                CHECK.fail(f + " is not final");
            }
        }
        if (own > 20) {
            CHECK.fail(c + " has " + own + " fields");
        }
        for (Method m : c.getDeclaredMethods()) {
            if (m.getParameterCount() > 7) {
                CHECK.fail(m + " takes more than seven");
            }
        }
    }

    private static String source() throws IOException {
        String text = Files.readString(Path.of("src/main/java/KnifeTrade.java"));
        text = text.replaceAll("(?s)/\\*.*?\\*/", "").replaceAll("//[^\n]*", "");
        return text.replaceAll("\"[^\"\n]*\"", "\"\"").replaceAll("'[^'\n]*'", "' '");
    }

    private static void words() throws IOException {
        CHECK.about("rules 2, 4 and 6");
        Matcher m = Pattern.compile("\\b(package|throw|throws|try|catch|finally|synchronized|assert"
                + "|volatile|transient|native|hashCode|toString|System\\.(?!arraycopy)"
                + "|\\w+Exact)\\b|->|::").matcher(source());
        while (m.find()) {
            CHECK.fail("the program has '" + m.group() + "'");
        }
        Matcher imports = Pattern.compile("import ([^;]*);").matcher(source());
        while (imports.find()) {
            CHECK.due("import " + imports.group(1),
                    imports.group(1).equals("java.util.Arrays") ? 1 : 0, 1);
        }
    }

    /** No method of more than sixty lines. */
    private static void lengths() throws IOException {
        CHECK.about("rule 11");
        int depth = 0;
        int begun = 0;
        String[] lines = source().split("\n");
        for (int i = 0; i < lines.length; i++) {
            boolean opens = lines[i].matches("    (    )?[^ ].*\\) \\{");
            if (opens) {
                begun = i;
                depth = lines[i].length() - lines[i].stripLeading().length();
            }
            boolean closes = lines[i].equals(" ".repeat(Math.max(1, depth)) + "}");
            if (closes && i - begun > 60) {
                CHECK.fail("a method of " + (i - begun) + " lines begins with " + lines[begun]);
            }
            if (closes) {
                begun = i;
            }
        }
    }
}
