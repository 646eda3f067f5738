import java.io.IOException;
import java.io.UncheckedIOException;
import java.nio.file.Files;
import java.nio.file.Path;
import java.util.Set;
import java.util.TreeSet;

/** The document's own words, so that no test goes by a sentence that isn't there: run from the project's directory. */
final class Document {
    private static final String TEXT = read();
    private static final Set<String> QUOTED = new TreeSet<>();

    private Document() {
    }

    private static String read() {
        try {
            return Files.readString(Path.of("../shared/DOC.md"));
        } catch (IOException e) {
            throw new UncheckedIOException(e);
        }
    }

    static String promise(int number) {
        return "Promise " + number + ":";
    }

    /** Whether these words stand under the heading that begins so. */
    static boolean says(String heading, String words) {
        QUOTED.add(heading);
        return under(heading).contains(words);
    }

    static boolean isQuoted(String heading) {
        return QUOTED.contains(heading);
    }

    private static String under(String heading) {
        int from = TEXT.indexOf("\n## " + heading);
        if (from < 0) {
            return "";
        }
        int to = TEXT.indexOf("\n## ", from + 1);
        return TEXT.substring(from, to < 0 ? TEXT.length() : to);
    }
}
