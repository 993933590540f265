import java.io.IOException;
import java.io.UncheckedIOException;
import java.nio.file.Files;
import java.nio.file.Path;
import java.util.HashMap;
import java.util.Map;

/** The document's parts by their headings, so that a test can only name what stands there. */
final class Document {
    private static final Path PLACE = Path.of("../shared/DOC.md");
    private static final Map<String, String> PARTS = readParts();

    private Document() {
    }

    private static Map<String, String> readParts() {
        Map<String, String> parts = new HashMap<>();
        try {
            for (String part : Files.readString(PLACE).split("(?m)^## ")) {
                String heading = part.lines().findFirst().orElse("");
                parts.put(heading.replaceAll(":.*", ""), oneSpace(part));
            }
        } catch (IOException e) {
            throw new UncheckedIOException(e);
        }
        return parts;
    }

    private static String oneSpace(String text) {
        return text.replaceAll("\\s+", " ");
    }

    /** The part is a heading up to its colon, such as "Terms" or "Promise 2". */
    static boolean says(String part, String sentence) {
        return PARTS.getOrDefault(part, "").contains(oneSpace(sentence));
    }
}
