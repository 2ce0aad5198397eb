import java.lang.reflect.Method;
import java.nio.file.DirectoryStream;
import java.nio.file.Files;
import java.nio.file.Path;

/**
 * Each sentence of the document that the issue of edges asks for is quoted by a test, or stands here among
 * those that name no case; so a sentence that is new, or has changed, is told.
 */
final class CoverTest {
    private static final Path TESTS = Path.of("src/test/java");
    private static final String[][] NAME_NO_CASE = {
        {"Terms", "It tells whose turn comes when, what each has stood, sold, bought and been paid, what a place "
            + "would cost, which exchange is fair."},
        {"Terms", "LINES AND PEOPLE"},
        {"Terms", "TIME"},
        {"Terms", "EXCHANGES AND JUMPS"},
        {"Terms", "MERGING"},
        {"Terms", "TEXT"},
        {"Terms", "ACTIONS AND UNDO"},
        {"Terms", "EXCEPTIONS"}};
    private static final Due due = new Due();

    public static void main(String[] args) throws Exception {
        Doc doc = new Doc();
        try (DirectoryStream<Path> files = Files.newDirectoryStream(TESTS, "*EdgesTest.java")) {
            for (Path file : files) {
                quote(doc, Class.forName(file.getFileName().toString().replace(".java", "")));
            }
        }
        for (String[] sentence : NAME_NO_CASE) {
            due.compare("the document says: " + sentence[1], "true",
                    String.valueOf(doc.quote(sentence[0], sentence[1])));
        }
        for (String heading : doc.headings()) {
            if (heading.equals("Terms") || heading.matches("\\d+")) {
                // FaceTest holds the program to how the methods are written down
                String face = doc.body(heading).replaceFirst("^(`[^`]*`:).*", "$1");
                if (face.startsWith("`") && face.endsWith("`:")) {
                    doc.quote(heading, face);
                }
                due.compare("what no test quotes below " + heading, "[]", doc.unquoted(heading).toString());
            }
        }
        due.end("CoverTest");
    }

    private static void quote(Doc doc, Class<?> edges) {
        for (Method test : Edges.tests(edges)) {
            for (Says says : test.getAnnotationsByType(Says.class)) {
                for (String words : says.words()) {
                    doc.quote(says.in(), words);
                }
            }
        }
    }
}
