import java.io.IOException;
import java.nio.file.Files;
import java.nio.file.Path;
import java.util.Map;
import java.util.TreeMap;

/** The sections of ../shared/DOC.md, and which of their words some test says it is for. */
final class Document {
    private static final Path PLACE = Path.of("..", "shared", "DOC.md");

    private final Map<String, String> sections = new TreeMap<>();
    private final Map<String, boolean[]> quoted = new TreeMap<>();

    Document() {
        // Without the document at hand the tests still hold; only their quotes go unlooked at.
        if (Files.isReadable(PLACE)) {
            for (String section : textOf(PLACE).split("(?m)^## ")) {
                String[] headingAndBody = section.split("\n", 2);
                String body = plain(headingAndBody.length > 1 ? headingAndBody[1] : "");
                sections.put(headingAndBody[0], body);
                quoted.put(headingAndBody[0], new boolean[body.length()]);
            }
        }
    }

    private static String textOf(Path place) {
        try {
            return Files.readString(place);
        } catch (IOException failure) {
            throw new IllegalStateException(failure);
        }
    }

    /** Without the fences, the call that a promise is about, and the breaks of its lines. */
    private static String plain(String body) {
        return body.replaceAll("```\\w*", " ").replaceAll("`[^`]*`:", " ").replaceAll("\\s+", " ");
    }

    /** Whether the section has these words; if so, they count as quoted. */
    boolean says(String heading, String words) {
        if (sections.isEmpty()) {
            return true;
        }
        int at = sections.getOrDefault(heading, "").indexOf(words);
        for (int i = at; at >= 0 && i < at + words.length(); i++) {
            quoted.get(heading)[i] = true;
        }
        return at >= 0;
    }

    /** The words of the section that no test has quoted. */
    String unquoted(String heading) {
        StringBuilder left = new StringBuilder();
        String body = sections.getOrDefault(heading, "");
        for (int i = 0; i < body.length(); i++) {
            boolean word = Character.isLetterOrDigit(body.charAt(i)) && !quoted.get(heading)[i];
            left.append(word ? body.charAt(i) : ' ');
        }
        return left.toString().replaceAll("\\s+", " ").trim();
    }
}
