import java.io.IOException;
import java.nio.file.Files;
import java.nio.file.Path;

/** The document that the tests quote, and other texts, with every line break read as a space. */
final class Document {
    private static final String TEXT = inOneLine(read(Path.of("../shared/DOC.md")));

    private Document() { }

    static boolean says(String words) {
        return TEXT.contains(inOneLine(words));
    }

    static String read(Path path) {
        try {
            return Files.readString(path);
        } catch (IOException e) {
            throw new IllegalStateException(path + " cannot be read", e);
        }
    }

    private static String inOneLine(String text) {
        return text.replaceAll("\\s+", " ");
    }
}
