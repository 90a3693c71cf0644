import java.io.IOException;
import java.lang.reflect.Method;
import java.lang.reflect.Modifier;
import java.net.URL;
import java.net.URLClassLoader;
import java.nio.file.Files;
import java.nio.file.Path;
import java.util.ArrayList;
import java.util.List;
import java.util.concurrent.Callable;
import java.util.regex.Matcher;
import java.util.regex.Pattern;
import javax.tools.ToolProvider;

/**
 * README.md tells the truth: its examples compile, answer and throw what is written beside them, and its table names
 * each call of the face with its parameters and what it throws. It must be run in the project's folder.
 */
public final class ReadmeTest {
    private static final Path README = Path.of("README.md");
    private static final Pattern TOLD = Pattern.compile("(table\\..*); +// ((?:answers|throws) [^:]+): .*");
    private static final Pattern ROW = Pattern.compile("\\| `(\\w+)\\(([^)]*)\\)` \\| (.*) \\|(.*)\\|");
    private static final Pattern EXCEPTION = Pattern.compile("`(\\w+Exception)`");

    private static final Check check = new Check("ReadmeTest");

    private static List<List<String>> examples(List<String> lines) {
        List<List<String>> examples = new ArrayList<>();
        boolean inside = false;
        for (String line : lines) {
            if (line.equals("```java")) {
                inside = true;
                examples.add(new ArrayList<>());
            } else if (line.startsWith("```")) {
                inside = false;
            } else if (inside) {
                examples.get(examples.size() - 1).add(line);
            }
        }
        return examples;
    }

    /** What the examples call; they are classes of another loader, so it is public. */
    public static void due(String call, Callable<Object> asked, String told) {
        String got;
        try {
            got = "answers " + asked.call();
        } catch (Exception e) {
            got = "throws " + e.getClass().getSimpleName();
        }
        check.same(call + " " + got + ", told is that it " + told, got.equals(told) ? 1 : 0, 1);
    }

    /** The example as a class, with each call of which something is told inside a check. */
    private static String asSource(String name, List<String> example) {
        StringBuilder source = new StringBuilder("public final class " + name + " {\npublic static void run() {\n");
        for (String line : example) {
            Matcher told = TOLD.matcher(line);
            String checked = "ReadmeTest.due(\"$1\", () -> $1, \"$2\");";
            source.append(told.matches() ? told.replaceFirst(checked) : line).append('\n');
        }
        return source.append("}\n}\n").toString();
    }

    private static void runExample(Path folder, String name, List<String> example) throws Exception {
        Path file = folder.resolve(name + ".java");
        Files.writeString(file, asSource(name, example));
        int compiled = ToolProvider.getSystemJavaCompiler().run(null, null, null, "-classpath",
                System.getProperty("java.class.path"), "-d", folder.toString(), file.toString());
        check.same("the compiler, of " + name, compiled, 0);
        if (compiled != 0) {
            return;
        }
        try (URLClassLoader loader = new URLClassLoader(new URL[] {folder.toUri().toURL()})) {
            loader.loadClass(name).getMethod("run").invoke(null);
        }
    }

    /** A remark that is not read as an answer or an exception would check nothing. */
    private static int told(List<String> example) {
        int told = 0;
        for (String line : example) {
            boolean read = TOLD.matcher(line).matches();
            check.same("what is told is read: " + line, line.contains("//") && !read ? 1 : 0, 0);
            told += read ? 1 : 0;
        }
        return told;
    }

    private static Method declared(String name) {
        for (Method method : WhisperedPots.class.getDeclaredMethods()) {
            if (Modifier.isPublic(method.getModifiers()) && method.getName().equals(name)) {
                return method;
            }
        }
        return null;
    }

    private static String thrownBy(Method method) {
        List<String> names = new ArrayList<>();
        for (Class<?> exception : method.getExceptionTypes()) {
            names.add(exception.getSimpleName());
        }
        return names.toString();
    }

    private static String named(String cell) {
        List<String> names = new ArrayList<>();
        Matcher matcher = EXCEPTION.matcher(cell);
        while (matcher.find()) {
            names.add(matcher.group(1));
        }
        return names.toString();
    }

    private static void checkTable(List<String> lines) {
        List<String> calls = new ArrayList<>();
        for (String line : lines) {
            Matcher row = ROW.matcher(line);
            if (!row.matches()) {
                continue;
            }
            String name = row.group(1);
            calls.add(name);
            Method method = declared(name);
            check.same("a call of the face: " + name, method != null ? 1 : 0, 1);
            if (method != null) {
                int parameters = row.group(2).isEmpty() ? 0 : row.group(2).split(", ").length;
                check.same("the parameters of " + name, parameters, method.getParameterCount());
                String thrown = named(row.group(4));
                check.same(name + " throws " + thrown, thrown.equals(thrownBy(method)) ? 1 : 0, 1);
            }
        }
        for (Method method : WhisperedPots.class.getDeclaredMethods()) {
            if (Modifier.isPublic(method.getModifiers())) {
                check.same("in the table: " + method.getName(), calls.contains(method.getName()) ? 1 : 0, 1);
            }
        }
    }

    public static void main(String[] args) throws Exception {
        List<String> lines = Files.readAllLines(README);
        List<List<String>> examples = examples(lines);
        check.same("examples", examples.size(), 2);
        Path folder = Files.createTempDirectory("readme");
        try {
            for (int i = 0; i < examples.size(); i++) {
                check.same("calls told in the example " + i, told(examples.get(i)) > 5 ? 1 : 0, 1);
                runExample(folder, "Example" + i, examples.get(i));
            }
        } finally {
            delete(folder);
        }
        checkTable(lines);
        check.end();
    }

    private static void delete(Path folder) throws IOException {
        try (var files = Files.list(folder)) {
            for (Path file : files.toList()) {
                Files.delete(file);
            }
        }
        Files.delete(folder);
    }
}
