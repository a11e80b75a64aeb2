import java.io.IOException;
import java.nio.charset.StandardCharsets;
import java.nio.file.Files;
import java.nio.file.Path;

/** The document, where it is at hand: what it promises is tested without it too. */
final class Document {
    private static final Path PLACE = Path.of("../shared/DOC.md");

    private Document() {
    }

    static boolean atHand() {
        return Files.isReadable(PLACE);
    }

    /** All of it, or nothing. */
    static String text() throws IOException {
        if (!atHand()) {
            System.out.println(PLACE + " is not at hand, so its words are not compared");
            return "";
        }
        return Files.readString(PLACE, StandardCharsets.UTF_8);
    }
}
