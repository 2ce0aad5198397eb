import java.lang.reflect.InvocationTargetException;
import java.lang.reflect.Method;
import java.lang.reflect.Modifier;
import java.net.URL;
import java.net.URLClassLoader;
import java.nio.file.DirectoryStream;
import java.nio.file.Files;
import java.nio.file.Path;
import java.util.List;
import java.util.Set;
import java.util.TreeMap;
import java.util.TreeSet;
import java.util.function.LongSupplier;
import java.util.function.ObjIntConsumer;
import java.util.regex.Matcher;
import java.util.regex.Pattern;
import javax.tools.ToolProvider;

/**
 * What README.md shows is true: its Java examples are compiled and run, and each call answers or throws
 * what stands behind it. It shows every method, and its tables name every test.
 */
final class ReadmeTest {
    private static final Path README = Path.of("README.md");
    private static final Path TESTS = Path.of("src/test/java");
    private static final Pattern ANSWERED =
            Pattern.compile("\\s*(?:int (\\w+) = )?(.*);\\s*// (-?\\d+|\\w+Exception)(?:: .*)?");
    private static final Pattern CALL = Pattern.compile("\\bx\\.(\\w+)\\(");
    private static final Due due = new Due();

    /** What the examples are made of: a method for each, and what is due by the line in README.md. */
    private static final StringBuilder source = new StringBuilder();
    private static final TreeMap<Integer, String> answers = new TreeMap<>();
    private static final Set<String> shown = new TreeSet<>();
    private static List<String> lines;
    private static int blocks = 0;

    public static void main(String[] args) throws Exception {
        lines = Files.readAllLines(README);
        read();
        run();
        due.compare("the methods that README.md shows", methods().toString(), shown.toString());
        due.compare("the tests that README.md names", tests().toString(), named().toString());
        due.end("ReadmeTest");
    }

    private static void read() {
        source.append("public final class Examples {\n");
        boolean inside = false;
        for (int i = 0; i < lines.size(); i++) {
            String line = lines.get(i);
            if (line.equals("```java")) {
                inside = true;
                source.append("public static void example").append(blocks++)
                        .append("(java.util.function.ObjIntConsumer<java.util.function.LongSupplier> ask) {\n");
            } else if (inside && line.equals("```")) {
                inside = false;
                source.append("}\n");
            } else if (inside) {
                readLine(line, i + 1);
            }
        }
        source.append("}\n");
    }

    private static void readLine(String line, int number) {
        Matcher call = CALL.matcher(line);
        while (call.find()) {
            shown.add(call.group(1));
        }
        Matcher answered = ANSWERED.matcher(line);
        if (!answered.matches()) {
            // in a loop, a call may answer something else each time
            due.compare(told(number) + " tells its answer", "true",
                    String.valueOf(line.startsWith(" ") || !line.startsWith("x.")));
            source.append(line).append('\n');
            return;
        }
        String asked = answered.group(2);
        if (answered.group(1) != null) {
            source.append(line).append('\n');
            asked = answered.group(1);
        }
        source.append("ask.accept(() -> ").append(asked).append(", ").append(number).append(");\n");
        answers.put(number, answered.group(3));
    }

    private static void run() throws Exception {
        Path folder = Files.createTempDirectory("readme");
        Path file = folder.resolve("Examples.java");
        Files.writeString(file, source);
        int compiled = ToolProvider.getSystemJavaCompiler().run(null, null, null,
                "-cp", System.getProperty("java.class.path"), "-d", folder.toString(), file.toString());
        due.is("the examples compile", 0, () -> compiled);
        if (compiled == 0) {
            try (URLClassLoader loader = new URLClassLoader(new URL[] {folder.toUri().toURL()})) {
                run(loader.loadClass("Examples"));
            }
        }
        try (DirectoryStream<Path> made = Files.newDirectoryStream(folder)) {
            for (Path one : made) {
                Files.delete(one);
            }
        }
        Files.delete(folder);
    }

    private static void run(Class<?> examples) throws ReflectiveOperationException {
        Set<Integer> asked = new TreeSet<>();
        ObjIntConsumer<LongSupplier> ask = (call, number) -> {
            asked.add(number);
            ask(call, number);
        };
        for (int i = 0; i < blocks; i++) {
            try {
                examples.getMethod("example" + i, ObjIntConsumer.class).invoke(null, ask);
            } catch (InvocationTargetException e) {
                due.compare("example " + i + " comes to its end", "yes", String.valueOf(e.getCause()));
            }
        }
        due.compare("the lines that are asked", answers.keySet().toString(), asked.toString());
    }

    private static void ask(LongSupplier call, int number) {
        String answer = answers.get(number);
        if (answer.endsWith("Exception")) {
            try {
                due.isThrown(told(number), Class.forName("java.lang." + answer), call::getAsLong);
            } catch (ClassNotFoundException e) {
                due.compare(told(number), "an exception that there is", answer);
            }
        } else {
            due.is(told(number), Long.parseLong(answer), call::getAsLong);
        }
    }

    private static String told(int number) {
        return "README.md, line " + number + ": " + lines.get(number - 1).strip();
    }

    private static Set<String> methods() {
        Set<String> names = new TreeSet<>();
        for (Method method : StoodMinutes.class.getDeclaredMethods()) {
            if (Modifier.isPublic(method.getModifiers())) {
                names.add(method.getName());
            }
        }
        return names;
    }

    private static Set<String> tests() throws Exception {
        Set<String> names = new TreeSet<>();
        try (DirectoryStream<Path> files = Files.newDirectoryStream(TESTS, "*Test.java")) {
            for (Path file : files) {
                names.add(file.getFileName().toString().replace(".java", ""));
            }
        }
        return names;
    }

    /** The tests in the first column of a table. */
    private static Set<String> named() {
        Set<String> names = new TreeSet<>();
        for (String line : lines) {
            Matcher row = Pattern.compile("\\| `(\\w+Test)` \\|.*").matcher(line);
            if (row.matches()) {
                names.add(row.group(1));
            }
        }
        return names;
    }
}
