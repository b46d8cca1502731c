import java.io.IOException;
import java.lang.reflect.Constructor;
import java.lang.reflect.Field;
import java.lang.reflect.Method;
import java.lang.reflect.Modifier;
import java.lang.reflect.Parameter;
import java.nio.file.Files;
import java.nio.file.Path;
import java.util.ArrayList;
import java.util.List;
import java.util.TreeSet;
import java.util.regex.Matcher;
import java.util.regex.Pattern;

/** The public face of the document, and those rules of LANGUAGE.md that can be read off the source. */
public final class FaceTest {
    private static final Pattern LIBRARY = Pattern.compile("import java\\.util\\.(ArrayList|List|Arrays|NoSuchElementException);");
    private static final String[] FORBIDDEN = {
        "\\bcatch\\b", "\\bfinally\\b", "\\bassert\\b", "\\bsynchronized\\b", "->", "::", "\\bequals\\(", "\\bhashCode\\(",
        "Exact\\(", "\\bwhile \\(true\\)", "\\bpublic static\\b", "\\bprotected\\b", "System\\.", "Math\\.(?!max\\(|min\\()"};

    private static String simple(String type) { return type.replaceAll("^.*\\.", ""); }

    private static String signature(Method m) {
        List<String> parameters = new ArrayList<>();
        for (Parameter p : m.getParameters()) parameters.add(p.getType().getSimpleName());
        List<String> thrown = new ArrayList<>();
        for (Class<?> e : m.getExceptionTypes()) thrown.add(e.getSimpleName());
        return m.getReturnType().getSimpleName() + " " + m.getName() + parameters + thrown;
    }

    private static TreeSet<String> documented(String document) {
        TreeSet<String> face = new TreeSet<>();
        String block = document.substring(document.indexOf("```java"), document.indexOf("```", document.indexOf("```java") + 7));
        Matcher line = Pattern.compile("public (\\w+) (\\w+)\\(([^)]*)\\)(?: throws ([^;]*))?;").matcher(block);
        while (line.find()) {
            List<String> parameters = new ArrayList<>();
            for (String p : line.group(3).split(", ")) if (!p.isEmpty()) parameters.add(p.split(" ")[0]);
            List<String> thrown = new ArrayList<>();
            if (line.group(4) != null) for (String e : line.group(4).split(", ")) thrown.add(simple(e));
            face.add(line.group(1) + " " + line.group(2) + parameters + thrown);
        }
        return face;
    }

    private static void face(String document) {
        Class<?> type = FairCircuit.class;
        Checks.is("modifiers", Modifier.toString(type.getModifiers()), "public final");
        TreeSet<String> built = new TreeSet<>();
        TreeSet<String> names = new TreeSet<>();
        for (Method m : type.getDeclaredMethods()) {
            if (!Modifier.isPrivate(m.getModifiers())) {
                built.add(signature(m));
                names.add(m.getName());
                Checks.is("modifiers of " + m.getName(), Modifier.toString(m.getModifiers()), "public");
            }
        }
        Checks.is("methods in the document", documented(document).size(), 43);
        Checks.is("methods", built, documented(document));
        Checks.is("constructors", type.getDeclaredConstructors().length, 1);
        for (Constructor<?> c : type.getDeclaredConstructors()) Checks.is("constructor", c.toString(), "public FairCircuit()");
        for (Field f : type.getDeclaredFields()) Checks.is("private " + f.getName(), Modifier.isPrivate(f.getModifiers()), true);
        privateNames(type, names);
        for (Class<?> inside : type.getDeclaredClasses()) privateNames(inside, names);
        Checks.is("classes", type.getDeclaredClasses().length < 12, true);
    }

    private static void privateNames(Class<?> type, TreeSet<String> names) {
        for (Method m : type.getDeclaredMethods()) {
            if (Modifier.isPrivate(m.getModifiers())) Checks.is("the face has no " + m.getName(), names.contains(m.getName()), false);
            Checks.is("parameters of " + m.getName(), m.getParameterCount() <= 7 || m.getName().equals("ride"), true);
        }
        int fields = 0;
        for (Field f : type.getDeclaredFields()) {
            boolean isConstant = Modifier.isStatic(f.getModifiers());
            Checks.is("static and final " + f.getName(), !isConstant || Modifier.isFinal(f.getModifiers()), true);
            if (!isConstant) fields++;
        }
        Checks.is("fields of " + type.getName(), fields <= 20, true);
    }

    private static void source(List<String> lines) {
        int length = 0;
        for (String line : lines) {
            if (line.startsWith("import ")) Checks.is(line, LIBRARY.matcher(line).matches(), true);
            String code = line.replaceAll("//.*", "").replaceAll("\"[^\"]*\"", "\"\"");
            for (String word : FORBIDDEN) Checks.is(word + " in " + line, Pattern.compile(word).matcher(code).find(), false);
            Checks.is("plain signs in " + line, line.chars().allMatch(c -> c > 0 && c < 128), true);
            length = line.isEmpty() ? 0 : length + 1;
            Checks.is("short methods, at " + line, length <= 60, true);
        }
    }

    public static void main(String[] args) throws IOException {
        Path root = Path.of(args.length > 0 ? args[0] : ".");
        face(Files.readString(root.resolve("../shared/DOC.md")));
        source(Files.readAllLines(root.resolve("src/main/java/FairCircuit.java")));
        Checks.end("FaceTest");
    }
}
