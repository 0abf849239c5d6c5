import java.io.IOException;
import java.io.UncheckedIOException;
import java.nio.file.Files;
import java.nio.file.Path;

/**
 * The words of ../shared/DOC.md, so that no sentence of it is left without a
 * test. Where the file is not there they are empty: the program can be tested
 * without them.
 */
final class Document {
    private static final Path FILE = Path.of("../shared/DOC.md");

    private Document() {
    }

    /** What a promise says, without its heading and the method's face. */
    static String promise(int number) {
        String said = paragraph("## Promise " + number + ":", "`");
        return said.isEmpty() ? said : said.substring(said.indexOf("`: ") + 3);
    }

    /** The paragraph that begins with some words, behind a heading, with single spaces. */
    static String paragraph(String heading, String firstWords) {
        if (!Files.exists(FILE)) {
            return "";
        }
        String text = read();
        int from = text.indexOf(heading);
        if (from < 0) {
            throw new IllegalStateException("the document has no heading " + heading);
        }
        for (String one : text.substring(from).split("\n\\s*\n")) {
            String words = one.strip().replaceAll("\\s+", " ");
            if (words.startsWith(firstWords)) {
                return words;
            }
        }
        throw new IllegalStateException("the document has no paragraph " + firstWords);
    }

    private static String read() {
        try {
            return Files.readString(FILE).replaceAll("(?m)^```\\w*$", "");
        } catch (IOException e) {
            throw new UncheckedIOException(e);
        }
    }
}
