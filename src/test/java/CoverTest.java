import java.lang.reflect.Method;
import java.nio.file.DirectoryStream;
import java.nio.file.Files;
import java.nio.file.Path;

/**
 * Each sentence of the document is quoted by a test, or stands here among those that name no case; so a
 * sentence that is new, or has changed, is told.
 */
final class CoverTest {
    private static final Path TESTS = Path.of("src/test/java");
    private static final String[][] NAME_NO_CASE = {
        {"What it is", "Waiting lines in which places are worth time: people who stand, minute by minute, with "
            + "certificates of the minutes they stood; places that are exchanged with later comers for minutes of "
            + "such time, turns that are jumped by right, against minutes that are paid back to those who are "
            + "passed, lines that are served at their own pace and merged, limits of waiting behind which the "
            + "house pays."},
        {"Terms", "It tells whose turn comes when, what each has stood, sold, bought and been paid, what a place "
            + "would cost, which exchange is fair."},
        {"Terms", "LINES AND PEOPLE"},
        {"Terms", "TIME"},
        {"Terms", "EXCHANGES AND JUMPS"},
        {"Terms", "MERGING"},
        {"Terms", "TEXT"},
        {"Terms", "ACTIONS AND UNDO"},
        {"Terms", "EXCEPTIONS"},
        {"Not promised", "How the state is held inside the object is free, as are the speed of each call, the text "
            + "of toString and the behaviour of equals and hashCode."},
        {"Not promised", "Use of one object from several threads at once is not promised to be safe."},
        {"Not promised", "Nothing is promised beyond the answers and state changes described above, and nothing "
            + "about an object after its 512th call."}};
    private static final Due due = new Due();

    public static void main(String[] args) throws Exception {
        Doc doc = new Doc();
        try (DirectoryStream<Path> files = Files.newDirectoryStream(TESTS, "*EdgesTest.java")) {
            for (Path file : files) {
                quote(doc, Class.forName(file.getFileName().toString().replace(".java", "")));
            }
        }
        for (String[] sentence : NAME_NO_CASE) {
            due.compare("the document says: " + sentence[1], "true",
                    String.valueOf(doc.quote(sentence[0], sentence[1])));
        }
        for (String heading : doc.headings()) {
            quoteFace(doc, heading);
            due.compare("what no test quotes below " + heading, "[]", doc.unquoted(heading).toString());
        }
        due.end("CoverTest");
    }

    /** FaceTest holds the program to how the methods are written down. */
    private static void quoteFace(Doc doc, String heading) {
        String body = doc.body(heading);
        String face = heading.equals("The public face") ? body : body.replaceFirst("^(`[^`]*`:).*", "$1");
        if (face.startsWith("`") && (face.endsWith("`:") || face.endsWith("```"))) {
            doc.quote(heading, face);
        }
    }

    private static void quote(Doc doc, Class<?> edges) {
        for (Method test : Edges.tests(edges)) {
            for (Says says : test.getAnnotationsByType(Says.class)) {
                for (String words : says.words()) {
                    doc.quote(says.in(), words);
                }
            }
        }
    }
}
