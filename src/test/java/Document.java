import java.io.IOException;
import java.nio.file.Files;
import java.nio.file.Path;
import java.util.LinkedHashMap;
import java.util.Map;
import java.util.TreeSet;
import java.util.regex.Matcher;
import java.util.regex.Pattern;

/** The document that the class is built by, as a text to be asked. */
final class Document {
    private static final Path PLACE = Path.of("../shared/DOC.md");
    private static final Pattern FACE = Pattern.compile("(?s)```java(.*?)```");
    private static final Pattern METHOD =
        Pattern.compile("public (\\w+) (\\w+)\\(([^)]*)\\)(?: throws ([\\w, ]+))?;");
    private static final Pattern HEAD = Pattern.compile("(?m)^## (.*)$");

    private Document() {
    }

    private static String text() throws IOException {
        return Files.readString(PLACE);
    }

    /** The methods of the public face as in "int law(int,int) throws IndexOutOfBoundsException". */
    static TreeSet<String> face() throws IOException {
        TreeSet<String> found = new TreeSet<>();
        Matcher face = FACE.matcher(text());
        Matcher method = METHOD.matcher(face.find() ? face.group(1) : "");
        while (method.find()) {
            String kinds = method.group(3).replaceAll("(\\w+) \\w+", "$1").replace(", ", ",");
            String thrown = method.group(4) == null ? "" : " throws " + method.group(4).replace(", ", ",");
            found.add(method.group(1) + " " + method.group(2) + "(" + kinds + ")" + thrown);
        }
        return found;
    }

    /** The parts that promise something, by their titles, in plain words and single blanks. */
    static Map<String, String> parts() throws IOException {
        String text = FACE.matcher(text()).replaceAll("").replace("`", "").replaceAll("<h2>\\w+( \\w+)*</h2>", "");
        Map<String, String> parts = new LinkedHashMap<>();
        Matcher head = HEAD.matcher(text);
        String title = null;
        int begin = 0;
        while (head.find()) {
            if (title != null) {
                parts.put(title, plain(text.substring(begin, head.start())));
            }
            title = head.group(1);
            begin = head.end();
        }
        return parts;
    }

    private static String plain(String part) {
        String without = part.replaceAll("(?m)^- (\\w+: )", "$1");
        String blanks = without.replaceAll("\\s+", " ").trim();
        return blanks.replaceAll("^(\\w+ )?\\w+\\([^)]*\\)( throws [\\w, ]+)?: ?", "");
    }
}
