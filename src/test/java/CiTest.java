import java.io.IOException;
import java.nio.file.Files;
import java.nio.file.Path;
import java.util.ArrayList;
import java.util.Comparator;
import java.util.List;
import java.util.stream.Stream;

/**
 * The script .ci/run, on small projects made for it: it passes where all tests do, and fails for each of
 * the reasons that README.md names; what README.md shows of a failing run is what it prints.
 */
final class CiTest {
    private static final Path README = Path.of("README.md");
    private static final Path SCRIPT = Path.of(".ci/run");
    private static final String CLASS = "main/src/main/java/StoodMinutes.java";
    private static final String SMALL = "public final class StoodMinutes { public int seven() { return 7; } }";
    private static final String SHARED = "shared/tests/SmallRuns.java";
    private static final String OWN = "main/src/test/java/SmallTest.java";
    private static final int AT_ONCE = 4;
    private static final Due due = new Due();
    private static final List<Project> projects = new ArrayList<>();

    /** A project of its own, on which the script runs while others are made. */
    private static final class Project {
        final String told;
        final Path root;
        final Path printed;
        Process run;
        int exit = -1;

        Project(String told) throws IOException {
            this.told = told;
            root = Files.createTempDirectory("ci");
            printed = root.resolve("printed.txt");
            Path script = root.resolve("main/.ci/run");
            Files.createDirectories(script.getParent());
            Files.copy(SCRIPT, script);
            projects.add(this);
        }

        Project with(String file, String text) throws IOException {
            Path path = root.resolve(file);
            Files.createDirectories(path.getParent());
            Files.writeString(path, text);
            return this;
        }

        /** The script finds its project from any folder. */
        void start() throws IOException {
            run = new ProcessBuilder("bash", root.resolve("main/.ci/run").toString())
                    .directory(root.toFile())
                    .redirectErrorStream(true)
                    .redirectOutput(printed.toFile())
                    .start();
        }

        void await() throws InterruptedException {
            exit = run.waitFor();
        }

        List<String> printed() throws IOException {
            return Files.readAllLines(printed);
        }

        void end() throws IOException {
            try (Stream<Path> files = Files.walk(root)) {
                for (Path file : files.sorted(Comparator.reverseOrder()).toList()) {
                    Files.delete(file);
                }
            }
        }
    }

    public static void main(String[] args) throws Exception {
        due.compare("the script can be run", "true", String.valueOf(Files.isExecutable(SCRIPT)));
        Project fine = fine("all tests pass");
        Project ownFails = fine("a test of the project fails").with(OWN, test("SmallTest", "8"));
        Project ownThrows = fine("a test of the project throws").with(OWN, test("SmallTest", "1 / 0"));
        Project ownBroken = fine("the project's tests do not compile").with(OWN, test("SmallTest", "gone"));
        Project sharedFails = fine("a shared test fails").with(SHARED, test("SmallRuns", "8"));
        Project sharedBroken = fine("a shared test does not compile").with(SHARED, test("SmallRuns", "gone"));
        Project deepFails = fine("a shared test in a folder fails")
                .with("shared/tests/deep/DeepRuns.java", test("DeepRuns", "8"));
        Project noShared = new Project("there are no shared tests")
                .with(CLASS, SMALL).with(OWN, test("SmallTest", "7"));
        Project classBroken = fine("the class does not compile").with(CLASS, SMALL.replace("7", "gone"));
        Project classWarned = fine("the class compiles with a warning")
                .with(CLASS, SMALL.replace("{ return", "{ java.util.List raw = null; return"));
        Project shown = shown();
        runAll();
        ends(fine, 0, "passed: ../shared/tests/SmallRuns.java", "passed: src/test/java/SmallTest.java",
                "2 passed, 0 failed");
        ends(ownFails, 1, "FAILED: src/test/java/SmallTest.java", "1 passed, 1 failed");
        ends(ownThrows, 1, "FAILED: src/test/java/SmallTest.java", "1 passed, 1 failed");
        ends(ownBroken, 1, "FAILED: the project's tests do not compile");
        ends(sharedFails, 1, "FAILED: ../shared/tests/SmallRuns.java", "1 passed, 1 failed");
        ends(sharedBroken, 1, "FAILED: ../shared/tests/SmallRuns.java", "1 passed, 1 failed");
        ends(deepFails, 1, "FAILED: ../shared/tests/deep/DeepRuns.java", "2 passed, 1 failed");
        ends(noShared, 1, "FAILED: there are tests under ../shared/tests", "1 passed, 1 failed");
        ends(classBroken, 1, "FAILED: src/main/java/StoodMinutes.java does not compile");
        ends(classWarned, 1, "FAILED: src/main/java/StoodMinutes.java does not compile");
        ends(shown, 1, "1 passed, 1 failed");
        due.compare("what README.md shows of a failing run", inReadme(), String.join("\n", shown.printed()));
        oneTestAlone();
        for (Project project : projects) {
            project.end();
        }
        due.end("CiTest");
    }

    /** Some at once, as each takes seconds; not all, as each takes machines of its own. */
    private static void runAll() throws Exception {
        for (int i = 0; i < projects.size() + AT_ONCE; i++) {
            if (i >= AT_ONCE) {
                projects.get(i - AT_ONCE).await();
            }
            if (i < projects.size()) {
                projects.get(i).start();
            }
        }
    }

    private static Project fine(String told) throws IOException {
        return new Project(told)
                .with(CLASS, SMALL)
                .with(SHARED, test("SmallRuns", "7"))
                .with(OWN, test("SmallTest", "7"));
    }

    /** A test that asks the small class for its one answer. */
    private static String test(String name, String answer) {
        return "public final class " + name + " { public static void main(String[] args) {"
                + " if (new StoodMinutes().seven() != " + answer + ") { System.exit(1); } } }";
    }

    /** The project's own class, whose load leaves the save slots as they are, and one test of the project. */
    private static Project shown() throws IOException {
        String whole = Files.readString(Path.of("src/main/java/StoodMinutes.java"));
        String wrong = whole.replace("filled[slot] = false;", "filled[slot] = filled[slot] || false;");
        due.compare("the class is another one", "false", String.valueOf(wrong.equals(whole)));
        Project project = new Project("what README.md shows")
                .with(CLASS, wrong)
                .with(SHARED, test("SmallRuns", "7").replace("seven()", "append('W') + 6"));
        for (String name : new String[] {"Due", "Seen", "SlotsTest"}) {
            String file = "src/test/java/" + name + ".java";
            project.with("main/" + file, Files.readString(Path.of(file)));
        }
        return project;
    }

    /** Ends with this exit code, and prints these lines, of which the last one is its last one. */
    private static void ends(Project project, int exit, String... printed) throws IOException {
        List<String> all = project.printed();
        due.is(project.told + ": the exit code", exit, () -> project.exit);
        for (String line : printed) {
            due.compare(project.told + ": prints " + line, "true", String.valueOf(all.contains(line)));
        }
        due.compare(project.told + ": prints at last", printed[printed.length - 1],
                all.isEmpty() ? "nothing" : all.get(all.size() - 1));
    }

    /** The commands in README.md by which one test is compiled and run, but for their folder. */
    private static void oneTestAlone() throws Exception {
        Project alone = new Project("one test alone");
        StringBuilder commands = new StringBuilder("true");
        for (String line : Files.readAllLines(README)) {
            if (line.matches(" {4}javac? .*")) {
                commands.append(" && ").append(line.replace("/tmp/classes", alone.root.resolve("c").toString()));
            }
        }
        alone.run = new ProcessBuilder("bash", "-c", commands.toString())
                .redirectErrorStream(true)
                .redirectOutput(alone.printed.toFile())
                .start();
        alone.await();
        String last = inReadme().replaceAll("(?s).*?(?<asked>SlotsTest: [^\n]*)1 wrong.*", "${asked}0 wrong");
        ends(alone, 0, last);
    }

    private static String inReadme() throws IOException {
        String readme = Files.readString(README);
        int from = readme.indexOf("```text\n");
        int to = readme.indexOf("\n```", Math.max(0, from + 1));
        return from < 0 || to < 0 ? "no run" : readme.substring(from + "```text\n".length(), to);
    }
}
