import java.io.IOException;
import java.lang.reflect.InvocationTargetException;
import java.lang.reflect.Method;
import java.lang.reflect.Modifier;
import java.nio.file.Files;
import java.nio.file.Path;
import java.util.HashMap;
import java.util.Map;
import java.util.Set;
import java.util.TreeSet;
import java.util.regex.Matcher;
import java.util.regex.Pattern;
import java.util.stream.Collectors;
import java.util.stream.Stream;

/** The calls that README.md shows answer as README.md says; it is run in the project's directory. */
public final class ReadmeTest {
    private static final Check CHECK = new Check();
    private static final Pattern MADE = Pattern.compile("ClosedSums (\\w+) = new ClosedSums\\(\\);");
    private static final Pattern CALLED = Pattern.compile(
            "(\\w+)\\.(\\w+)\\(([^()]*)\\); +// (throws \\w+|-?\\d+|true|false|nothing)(: .*)?");

    private final Map<String, ClosedSums> objects = new HashMap<>();
    private final Set<String> answered = new TreeSet<>();
    private final Set<String> refused = new TreeSet<>();

    public static void main(String[] args) throws IOException {
        String text = Files.readString(Path.of("README.md"));
        ReadmeTest test = new ReadmeTest();
        test.blocks(text);
        test.everyMethodIsShown();
        everyTestIsNamed(text);
        CHECK.end();
    }

    private void blocks(String text) {
        boolean inside = false;
        for (String line : text.split("\n")) {
            if (line.startsWith("```")) {
                inside = line.equals("```java");
            } else if (inside && !line.isBlank()) {
                line(line);
            }
        }
    }

    /** A line of another form fails, so that no call is passed over. */
    private void line(String line) {
        Matcher made = MADE.matcher(line);
        Matcher called = CALLED.matcher(line);
        if (made.matches()) {
            objects.put(made.group(1), new ClosedSums());
        } else if (called.matches() && objects.containsKey(called.group(1))) {
            String[] arguments = called.group(3).isEmpty() ? new String[0] : called.group(3).split(", ");
            String got = call(objects.get(called.group(1)), called.group(2), arguments);
            String due = called.group(4);
            CHECK.holds("README.md: " + line + " but it came to " + got + ", which", got.equals(due));
            (due.startsWith("throws ") ? refused : answered).add(called.group(2));
        } else {
            CHECK.holds("README.md: that this can be read: " + line, false);
        }
    }

    private static String call(ClosedSums x, String name, String[] arguments) {
        try {
            Method method = method(name);
            Object answer = method.invoke(x, values(method.getParameterTypes(), arguments));
            return method.getReturnType() == void.class ? "nothing" : String.valueOf(answer);
        } catch (InvocationTargetException e) {
            return "throws " + e.getCause().getClass().getSimpleName();
        } catch (ReflectiveOperationException | IllegalArgumentException e) {
            return "no call: " + e;
        }
    }

    private static Method method(String name) throws NoSuchMethodException {
        for (Method method : ClosedSums.class.getDeclaredMethods()) {
            if (Modifier.isPublic(method.getModifiers()) && method.getName().equals(name)) {
                return method;
            }
        }
        throw new NoSuchMethodException(name);
    }

    private static Object[] values(Class<?>[] types, String[] arguments) {
        Object[] values = new Object[types.length];
        if (arguments.length != types.length) {
            throw new IllegalArgumentException("not so many arguments");
        }
        for (int i = 0; i < types.length; i++) {
            values[i] = value(types[i], arguments[i]);
        }
        return values;
    }

    private static Object value(Class<?> type, String argument) {
        if (type == boolean.class && (argument.equals("true") || argument.equals("false"))) {
            return Boolean.valueOf(argument);
        }
        if (type == int.class) {
            return Integer.valueOf(argument);
        }
        if (type == long.class) {
            return Long.valueOf(argument);
        }
        throw new IllegalArgumentException(argument);
    }

    private void everyMethodIsShown() {
        for (Method method : ClosedSums.class.getDeclaredMethods()) {
            if (Modifier.isPublic(method.getModifiers())) {
                String name = method.getName();
                CHECK.holds("README.md: an answer of " + name, answered.contains(name));
                CHECK.holds("README.md: a refusal of " + name,
                        method.getExceptionTypes().length == 0 || refused.contains(name));
            }
        }
    }

    private static void everyTestIsNamed(String text) throws IOException {
        try (Stream<Path> files = Files.list(Path.of("src/test/java"))) {
            for (Path file : files.collect(Collectors.toList())) {
                String name = file.getFileName().toString().replace(".java", "");
                CHECK.holds("README.md: the test " + name, !name.endsWith("Test") || text.contains("`" + name + "`"));
            }
        }
    }
}
