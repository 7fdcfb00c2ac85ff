import java.io.IOException;
import java.lang.reflect.Field;
import java.lang.reflect.Method;
import java.lang.reflect.Modifier;
import java.nio.file.Files;
import java.nio.file.Path;
import java.util.Set;
import java.util.TreeSet;
import java.util.regex.Matcher;
import java.util.regex.Pattern;

/** The class has the document's face and nothing more, and keeps out what LANGUAGE.md rules out. */
public final class FaceTest {
    private static final Path SOURCE = Path.of("src/main/java/GradingMixes.java");
    private static final Set<String> FACE = Set.of(
            "int sieve(int, int)", "boolean band(int, int, int)", "int stock(int, int, int, boolean)",
            "boolean passes(int, int, int, int)", "int cap(int)", "int step(int)", "boolean unit(int)",
            "int read()", "int run()", "int near()", "int share(int)", "int told(int, int)", "int cost()",
            "int lonely(int)", "int worth(int, boolean, int)", "int water(int, int)", "int batch(int)",
            "int mass(int, boolean)", "int limit(int)", "int test(int, int)", "int fired(int, int)",
            "int count(int)");
    private static final Check check = new Check();

    public static void main(String[] args) throws IOException {
        check.begin("face");
        methods();
        fields();
        constructors();
        classes();
        words(Files.readString(SOURCE));
        check.end();
    }

    private static void methods() {
        Set<String> found = new TreeSet<>();
        Set<String> names = new TreeSet<>();
        for (Method method : GradingMixes.class.getDeclaredMethods()) {
            if (!Modifier.isPrivate(method.getModifiers())) {
                found.add(spelled(method));
                names.add(method.getName());
            }
        }
        check.due("methods " + found, found.equals(new TreeSet<>(FACE)), true);
        for (Method method : GradingMixes.class.getDeclaredMethods()) {
            boolean hidden = Modifier.isPrivate(method.getModifiers());
            check.due("name of " + method, hidden && names.contains(method.getName()), false);
        }
    }

    private static String spelled(Method method) {
        StringBuilder text = new StringBuilder();
        text.append(method.getReturnType()).append(' ').append(method.getName()).append('(');
        String between = "";
        for (Class<?> type : method.getParameterTypes()) {
            text.append(between).append(type);
            between = ", ";
        }
        return text.append(')').toString();
    }

    private static void fields() {
        for (Field field : GradingMixes.class.getDeclaredFields()) {
            boolean hidden = Modifier.isPrivate(field.getModifiers());
            check.due("field " + field, hidden, !field.getName().equals("BAD"));
            boolean changing = Modifier.isStatic(field.getModifiers()) && !Modifier.isFinal(field.getModifiers());
            check.due("static state " + field, changing, false);
        }
        check.due("BAD", GradingMixes.BAD, -1);
    }

    private static void constructors() {
        check.due("constructors", GradingMixes.class.getDeclaredConstructors().length, 1);
        check.due("public constructors", GradingMixes.class.getConstructors().length, 1);
        check.due("its parameters", GradingMixes.class.getConstructors()[0].getParameterCount(), 0);
    }

    private static void classes() {
        int modifiers = GradingMixes.class.getModifiers();
        check.due("public and final", Modifier.isPublic(modifiers) && Modifier.isFinal(modifiers), true);
        Class<?>[] inside = GradingMixes.class.getDeclaredClasses();
        check.due("at most twelve classes", inside.length + 1 <= 12, true);
        for (Class<?> nested : inside) {
            check.due("static " + nested, Modifier.isStatic(nested.getModifiers()), true);
            check.due("not public " + nested, Modifier.isPublic(nested.getModifiers()), false);
            check.due("at most twenty fields " + nested, nested.getDeclaredFields().length <= 20, true);
        }
    }

    private static void words(String source) {
        String code = source.replaceAll("(?s)/\\*.*?\\*/", "").replaceAll("//[^\n]*", "");
        // What LANGUAGE.md leaves of these words: some of the library, and the arrows of a switch.
        String rest = code.replaceAll("import java\\.util\\.(ArrayList|List|Arrays|Iterator);", "")
                .replace("System.arraycopy", "").replaceAll("\\b(case [^:\n]*?|default) ->", "");
        Matcher ruledOut = Pattern.compile(
                "\\b(throw|throws|try|catch|finally|synchronized|assert|import|package|System|Thread)\\b"
                + "|->|::|Exact\\b").matcher(rest);
        check.due(ruledOut.find() ? "ruled out: " + ruledOut.group() : "no word that is ruled out",
                ruledOut.reset().find(), false);
    }
}
