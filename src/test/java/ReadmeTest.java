import java.io.ByteArrayOutputStream;
import java.io.IOException;
import java.io.PrintStream;
import java.nio.charset.StandardCharsets;
import java.nio.file.DirectoryStream;
import java.nio.file.Files;
import java.nio.file.Path;
import java.util.regex.Matcher;
import java.util.regex.Pattern;

/** README.md: its example and what that prints, every call of the face, and every test. */
public final class ReadmeTest {
    private static final Path TESTS = Path.of("src", "test", "java");
    private static final Check check = new Check();

    public static void main(String[] args) throws IOException {
        check.promise("README.md");
        String readme = Files.readString(Path.of("README.md"));
        example(readme);
        calls(readme);
        tests(readme);
        check.end();
    }

    private static void example(String readme) throws IOException {
        String source = Files.readString(TESTS.resolve("ReadmeExample.java"));
        int from = source.indexOf("        TuneFinder finder");
        int to = source.indexOf("    }\n\n    private ReadmeExample()");
        check.same(source.substring(from, to).indent(-8), block(readme, "java"), "the example");
        check.same(printed(), block(readme, "text"), "what the example prints");
    }

    private static String block(String readme, String language) {
        Matcher words = Pattern.compile("```" + language + "\n(.*?)```", Pattern.DOTALL).matcher(readme);
        return words.find() ? words.group(1) : "";
    }

    private static String printed() {
        PrintStream screen = System.out;
        ByteArrayOutputStream bytes = new ByteArrayOutputStream();
        System.setOut(new PrintStream(bytes, true, StandardCharsets.UTF_8));
        try {
            ReadmeExample.run();
        } finally {
            System.setOut(screen);
        }
        return bytes.toString(StandardCharsets.UTF_8).replace(System.lineSeparator(), "\n");
    }

    private static void calls(String readme) throws IOException {
        Matcher call = Pattern.compile("^    public (?:\\w+ )?(\\w+)\\((.*)\\)", Pattern.MULTILINE)
                .matcher(Files.readString(Path.of("..", "shared", "DOC.md")));
        int promises = 0;
        while (call.find()) {
            promises++;
            String made = call.group(1).equals("TuneFinder") ? "new TuneFinder" : call.group(1);
            String row = "| `" + made + "(" + call.group(2).replaceAll("(int|boolean) ", "") + ")` |";
            check.same("true", "" + readme.contains(row), row + " is told");
        }
        check.same("" + Document.PROMISES, "" + promises, "how many calls the face has");
    }

    private static void tests(String readme) throws IOException {
        check.same("true", "" + readme.contains("\n    .ci/run\n"), "how the tests are run");
        try (DirectoryStream<Path> files = Files.newDirectoryStream(TESTS, "*Test.java")) {
            for (Path file : files) {
                String name = file.getFileName().toString().replace(".java", "");
                boolean told = Pattern.compile("^\\|.*\\b" + name + "\\b.*\\|.*\\|$", Pattern.MULTILINE)
                        .matcher(readme).find();
                check.same("true", "" + told, name + " is told");
            }
        }
    }
}
