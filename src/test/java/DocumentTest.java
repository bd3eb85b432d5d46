import java.io.IOException;
import java.nio.file.DirectoryStream;
import java.nio.file.Files;
import java.nio.file.Path;
import java.util.LinkedHashMap;
import java.util.Map;
import java.util.regex.Matcher;
import java.util.regex.Pattern;

/**
 * Each sentence of the document stands, in quotation marks, above a test that asks for it; and what stands
 * so above a test is the document's own word. A test that is named after a promise is one of this promise
 * and of what the terms say; three points leave out a part of a sentence.
 */
public final class DocumentTest {
    private static final Path TESTS = Path.of("src/test/java");
    private static final Pattern TEST =
        Pattern.compile("(?s)/\\*\\*((?:(?!\\*/).)*)\\*/\\s*static void (?:promise(\\d+))?(\\w+)\\(\\)");
    private static final Pattern QUOTE = Pattern.compile("\"([^\"]*)\"");
    /** What says no more than the sentences behind it, or leaves an answer free. */
    private static final String[] NOT_ASKED = {
        "A hall of draughts by all laws: boards of several sizes, laws as numbers, men and kings, captures in "
            + "chains with what remains, moves told by two fields, huffing, draws by counts, games taken back, "
            + "endings solved backwards into tables, wins proved by going on, problems with keys and duals, "
            + "openings drawn by lot with moves that are barred, a book whose claims tables refute, and what a "
            + "position can have come from.",
        "what later calls answer is free",
    };

    private final Map<String, String> parts = Document.parts();
    private final Map<String, boolean[]> asked = new LinkedHashMap<>();

    private DocumentTest() throws IOException {
        parts.forEach((title, text) -> asked.put(title, new boolean[text.length()]));
    }

    public static void main(String[] args) throws IOException {
        new DocumentTest().ask();
        Check.end();
    }

    private void ask() throws IOException {
        Check.same("parts", 52, parts.size());
        for (String text : NOT_ASKED) {
            quote("what is not asked", "", text);
        }
        try (DirectoryStream<Path> files = Files.newDirectoryStream(TESTS, "*Test.java")) {
            for (Path file : files) {
                read(Files.readString(file));
            }
        }
        parts.forEach(this::tellTheRest);
    }

    private void read(String source) {
        Matcher test = TEST.matcher(source);
        while (test.find()) {
            String comment = test.group(1).replaceAll("\\s*\\n\\s*\\*?\\s*", " ");
            Matcher quote = QUOTE.matcher(comment);
            while (quote.find()) {
                for (String piece : quote.group(1).split("\\.\\.\\.")) {
                    quote(test.group(3), test.group(2) == null ? "" : test.group(2), piece);
                }
            }
        }
    }

    /** Marks what is quoted: in the promise of the test wherever it stands, else where it stands just once. */
    private void quote(String test, String promise, String piece) {
        String words = piece.replaceAll("^[ ,;:]+|[ ,;:]+$", "");
        for (String title : parts.keySet()) {
            if (title.startsWith("Promise " + promise + ":") && mark(title, words) > 0) {
                return;
            }
        }
        int found = 0;
        for (String title : parts.keySet()) {
            found += title.startsWith("Promise") ? 0 : mark(title, words);
        }
        Check.same(test + " quotes: " + words, 1, found);
    }

    private int mark(String title, String words) {
        Matcher place = Pattern.compile("(?<!\\w)" + Pattern.quote(words) + "(?!\\w)").matcher(parts.get(title));
        int found = 0;
        while (place.find()) {
            java.util.Arrays.fill(asked.get(title), place.start(), place.end(), true);
            found++;
        }
        return found;
    }

    private void tellTheRest(String title, String text) {
        StringBuilder rest = new StringBuilder();
        for (int i = 0; i < text.length(); i++) {
            rest.append(asked.get(title)[i] ? '|' : text.charAt(i));
        }
        for (String words : rest.toString().split("\\|+")) {
            Check.no(title + ", no test asks for: " + words.trim(), words.matches(".*\\w.*"));
        }
    }
}
