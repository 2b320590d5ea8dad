import java.io.IOException;
import java.io.UncheckedIOException;
import java.nio.file.Files;
import java.nio.file.Path;
import java.util.regex.Matcher;
import java.util.regex.Pattern;

/** The words of ../shared/DOC.md, so that a test can name the sentence that it stands for. */
final class Document {
    static final int PROMISES = 18;

    private static final Pattern REFUSALS = Pattern.compile("(?<=\\. )\\w+Exception when .*");

    private final String text;

    Document() {
        try {
            text = Files.readString(Path.of("..", "shared", "DOC.md"));
        } catch (IOException e) {
            throw new UncheckedIOException(e);
        }
    }

    boolean has(String words) {
        return text.contains(words);
    }

    /** What a promise says of the exceptions of its call, or nothing. */
    String refusals(int promise) {
        Matcher words = REFUSALS.matcher(section(promise));
        return words.find() ? words.group() : "";
    }

    private String section(int promise) {
        int from = text.indexOf("\n## Promise " + promise + ":");
        int to = from < 0 ? from : text.indexOf("\n## ", from + 1);
        return to < 0 ? "" : text.substring(from, to);
    }
}
