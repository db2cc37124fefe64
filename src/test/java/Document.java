import java.io.IOException;
import java.nio.file.Files;
import java.nio.file.Path;
import java.util.Arrays;
import java.util.LinkedHashMap;
import java.util.Map;

/** The document's own words, by heading, and which of them a test has quoted so far. */
final class Document {
    private static final Path PLACE = Path.of("../shared/DOC.md");

    private final Map<String, String> texts = new LinkedHashMap<>();
    private final Map<String, boolean[]> quoted = new LinkedHashMap<>();

    Document() throws IOException {
        for (String part : Files.readString(PLACE).split("(?m)^## ")) {
            String heading = part.lines().findFirst().orElse("").replaceAll(":.*", "").trim();
            String text = plainSpaces(part.substring(Math.min(part.length(), part.indexOf('\n') + 1)));
            texts.put(heading, text);
            quoted.put(heading, new boolean[text.length()]);
        }
    }

    static boolean isThere() {
        return Files.isReadable(PLACE);
    }

    private static String plainSpaces(String text) {
        return text.replaceAll("\\s+", " ").trim();
    }

    /** Whether these words stand under this heading; they count as quoted then. */
    boolean says(String heading, String words) {
        String text = texts.getOrDefault(heading, "");
        int at = text.indexOf(plainSpaces(words));
        if (at < 0 || words.isBlank()) {
            return false;
        }
        Arrays.fill(quoted.get(heading), at, at + plainSpaces(words).length(), true);
        return true;
    }

    /** The words under the headings that begin so which no test quoted, but for the calls' forms. */
    String leftOut(String headingsBegin) {
        StringBuilder left = new StringBuilder();
        for (String heading : texts.keySet()) {
            if (heading.startsWith(headingsBegin)) {
                left.append(unquotedOf(heading));
            }
        }
        return left.toString().trim();
    }

    private String unquotedOf(String heading) {
        StringBuilder left = new StringBuilder();
        String text = texts.get(heading);
        for (int i = 0; i < text.length(); i++) {
            left.append(quoted.get(heading)[i] ? ' ' : text.charAt(i));
        }
        String words = plainSpaces(left.toString().replaceAll("^`[^`]*`:|```text|```|==== \\d\\.", " "));
        return words.matches(".*\\w.*") ? heading + ": " + words + "\n" : "";
    }
}
