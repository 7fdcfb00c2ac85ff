import java.io.IOException;
import java.lang.reflect.Method;
import java.nio.file.Files;
import java.nio.file.Path;
import java.util.Set;
import java.util.TreeSet;
import java.util.regex.Matcher;
import java.util.regex.Pattern;

/** What README.md shows of the class's use is what the class answers, and it shows every call. */
public final class ReadmeTest {
    private static final Path README = Path.of("README.md");
    private static final Pattern JAVA_PART = Pattern.compile("(?s)```java\n(.*?)```");
    private static final Pattern MAKING = Pattern.compile("GradingMixes x = new GradingMixes\\(\\);");
    private static final Pattern CALL =
            Pattern.compile("x\\.(\\w+)\\(([^)]*)\\);\\s+// (-?\\d+|true|false)(:.*)?");
    private static final Pattern SIGNS =
            Pattern.compile("for \\(char sign : \"([^\"]*)\"\\.toCharArray\\(\\)\\) x\\.unit\\(sign\\);");
    private static final Check check = new Check();
    private static final Set<String> shown = new TreeSet<>();
    private static GradingMixes x = null;

    public static void main(String[] args) throws IOException, ReflectiveOperationException {
        check.begin("README.md");
        Matcher part = JAVA_PART.matcher(Files.readString(README));
        while (part.find()) {
            for (String line : part.group(1).split("\n")) {
                follow(line);
            }
        }
        for (Method method : GradingMixes.class.getMethods()) {
            boolean own = method.getDeclaringClass() == GradingMixes.class;
            check.due("shows " + method.getName(), own && !shown.contains(method.getName()), false);
        }
        check.end();
    }

    private static void follow(String line) throws ReflectiveOperationException {
        Matcher call = CALL.matcher(line);
        Matcher signs = SIGNS.matcher(line);
        if (MAKING.matcher(line).matches()) {
            x = new GradingMixes();
        } else if (signs.matches()) {
            shown.add("unit");
            for (char sign : signs.group(1).toCharArray()) {
                check.due(line, x.unit(sign), true);
            }
        } else if (call.matches()) {
            shown.add(call.group(1));
            String answer = answer(call.group(1), call.group(2));
            check.due(line + " which answered " + answer, answer.equals(call.group(3)), true);
        } else {
            check.due("a line that this test can follow: " + line, false, true);
        }
    }

    private static String answer(String name, String values) throws ReflectiveOperationException {
        String[] texts = values.isEmpty() ? new String[0] : values.split(", ");
        for (Method method : GradingMixes.class.getMethods()) {
            if (method.getName().equals(name) && method.getParameterCount() == texts.length) {
                return String.valueOf(method.invoke(x, asArguments(method.getParameterTypes(), texts)));
            }
        }
        return "nothing, for there is no such call";
    }

    private static Object[] asArguments(Class<?>[] types, String[] texts) {
        Object[] arguments = new Object[texts.length];
        for (int i = 0; i < texts.length; i++) {
            if (types[i] == boolean.class) {
                arguments[i] = Boolean.valueOf(texts[i]);
            } else {
                arguments[i] = Integer.valueOf(texts[i]);
            }
        }
        return arguments;
    }
}
