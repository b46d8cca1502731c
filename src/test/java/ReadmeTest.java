import java.io.IOException;
import java.lang.reflect.InvocationTargetException;
import java.lang.reflect.Method;
import java.lang.reflect.Modifier;
import java.nio.file.Files;
import java.nio.file.Path;
import java.util.HashMap;
import java.util.Map;
import java.util.TreeMap;
import java.util.TreeSet;
import java.util.regex.Matcher;
import java.util.regex.Pattern;
import java.util.stream.Stream;

/** Makes the calls that README.md shows, one behind the other, and compares the answers that it names. */
public final class ReadmeTest {
    private static final String NEW = "FairCircuit circuit = new FairCircuit();";
    private static final Pattern BLOCK = Pattern.compile("(?s)```java\n(.*?)```");
    /** A call, the variable that keeps its answer, and behind it the answer and perhaps a remark. */
    private static final Pattern CALL = Pattern.compile(
        "(?:int (\\w+) = )?circuit\\.(\\w+)\\(([^()]*)\\); +// (throws \\w+|'.'|-?[\\w.]+)(?:, .*)?");

    private static final Map<String, Method> FACE = new TreeMap<>();
    private final Map<String, Object> variables = new HashMap<>();
    private final TreeSet<String> shown = new TreeSet<>();
    private FairCircuit circuit = null;

    private Object value(String text, Class<?> type) {
        if (variables.containsKey(text)) return variables.get(text);
        if (type == boolean.class) return Boolean.valueOf(text);
        if (type == char.class) return text.charAt(1);
        if (type == long.class) return Long.valueOf(text.replace("L", ""));
        if (type == float.class) return Float.valueOf(text);
        if (type == double.class) return Double.valueOf(text);
        return Integer.valueOf(text);
    }

    private Object answer(Method method, String arguments) {
        Class<?>[] types = method.getParameterTypes();
        String[] texts = arguments.isEmpty() ? new String[0] : arguments.split(", ");
        Object[] values = new Object[texts.length];
        for (int i = 0; i < texts.length; i++) values[i] = value(texts[i], types[i]);
        try {
            return method.invoke(circuit, values);
        } catch (InvocationTargetException e) {
            return "throws " + e.getCause().getClass().getSimpleName();
        } catch (IllegalAccessException e) {
            throw new AssertionError(e);
        }
    }

    private void call(String line) {
        if (line.equals(NEW)) circuit = new FairCircuit();
        Matcher parts = CALL.matcher(line);
        boolean isCall = parts.matches() && FACE.containsKey(parts.group(2));
        Checks.is("a call with its answer: " + line, isCall || line.equals(NEW), true);
        if (!isCall) return;
        Method method = FACE.get(parts.group(2));
        shown.add(method.getName());
        Object got = answer(method, parts.group(3));
        String due = parts.group(4);
        Checks.is(line, got, due.startsWith("throws ") ? due : value(due, method.getReturnType()));
        if (parts.group(1) != null) variables.put(parts.group(1), got);
    }

    private static void namesTests(String readme, Path tests) throws IOException {
        try (Stream<Path> files = Files.list(tests)) {
            for (Path file : files.toList()) {
                String name = file.getFileName().toString().replace(".java", "");
                Checks.is("README.md names " + name, readme.contains("`" + name), true);
            }
        }
    }

    public static void main(String[] args) throws IOException {
        for (Method method : FairCircuit.class.getDeclaredMethods()) {
            if (Modifier.isPublic(method.getModifiers())) FACE.put(method.getName(), method);
        }
        Path root = Path.of(args.length > 0 ? args[0] : ".");
        String readme = Files.readString(root.resolve("README.md"));
        ReadmeTest test = new ReadmeTest();
        Matcher block = BLOCK.matcher(readme);
        while (block.find()) {
            for (String line : block.group(1).split("\n")) test.call(line);
        }
        Checks.is("methods that README.md shows", test.shown, new TreeSet<>(FACE.keySet()));
        namesTests(readme, root.resolve("src/test/java"));
        Checks.end("ReadmeTest");
    }
}
