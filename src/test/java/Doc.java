import java.io.IOException;
import java.io.UncheckedIOException;
import java.nio.file.Files;
import java.nio.file.Path;
import java.util.ArrayList;
import java.util.LinkedHashMap;
import java.util.List;
import java.util.Map;

/** The document by its headings, and which of its words are quoted already; white space does not count. */
final class Doc {
    private static final Path FILE = Path.of("../shared/DOC.md");

    private final Map<String, String> sections = new LinkedHashMap<>();
    private final Map<String, boolean[]> quoted = new LinkedHashMap<>();

    Doc() {
        for (String section : text().split("(?m)^##? ")) {
            int end = section.indexOf('\n');
            if (end >= 0) {
                String heading = section.substring(0, end).replaceFirst("Promise (\\d+):.*", "$1").strip();
                String body = plain(section.substring(end));
                sections.put(heading, body);
                quoted.put(heading, new boolean[body.length()]);
            }
        }
    }

    private static String text() {
        try {
            return Files.readString(FILE);
        } catch (IOException e) {
            throw new UncheckedIOException(e);
        }
    }

    private static String plain(String text) {
        return text.strip().replaceAll("\\s+", " ");
    }

    /** Marks these words, wherever they stand below the heading; answers whether they stand there. */
    boolean quote(String heading, String words) {
        String body = sections.getOrDefault(heading, "");
        int from = body.indexOf(words);
        if (words.isEmpty() || from < 0) {
            return false;
        }
        for (; from >= 0; from = body.indexOf(words, from + 1)) {
            for (int i = from; i < from + words.length(); i++) {
                quoted.get(heading)[i] = true;
            }
        }
        return true;
    }

    Iterable<String> headings() {
        return sections.keySet();
    }

    String body(String heading) {
        return sections.getOrDefault(heading, "");
    }

    /** The pieces below a heading that nothing quotes; lone marks and list dashes are none. */
    List<String> unquoted(String heading) {
        List<String> pieces = new ArrayList<>();
        String body = sections.get(heading);
        boolean[] marks = quoted.get(heading);
        StringBuilder piece = new StringBuilder();
        for (int i = 0; i <= body.length(); i++) {
            if (i < body.length() && !marks[i]) {
                piece.append(body.charAt(i));
                continue;
            }
            if (piece.toString().matches(".*[A-Za-z0-9].*")) {
                pieces.add(piece.toString().strip());
            }
            piece.setLength(0);
        }
        return pieces;
    }
}
