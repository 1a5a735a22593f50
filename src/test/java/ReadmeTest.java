import java.io.ByteArrayOutputStream;
import java.io.IOException;
import java.io.PrintStream;
import java.io.UnsupportedEncodingException;
import java.nio.file.DirectoryStream;
import java.nio.file.Files;
import java.nio.file.Path;

/** The example in README.md is the one that is run here, it prints what stands there, and no test is left out. It is run in the root of the project. */
final class ReadmeTest {
    private static final Path TESTS = Path.of("src/test/java");

    private ReadmeTest() {
    }

    public static void main(String[] args) throws IOException {
        String readme = Files.readString(Path.of("README.md"));
        Checks.due("the example", block(readme, "java"), Files.readString(TESTS.resolve("ReadmeExample.java")));
        Checks.due("what the example prints", printed(), block(readme, "text"));
        everyTestIsNamed(readme);
        Checks.end("ReadmeTest");
    }

    /** The first block of code in a language; empty if there is none. */
    private static String block(String readme, String language) {
        String head = "```" + language + "\n";
        int start = readme.indexOf(head);
        int end = start < 0 ? -1 : readme.indexOf("```", start + head.length());
        return end < 0 ? "" : readme.substring(start + head.length(), end);
    }

    private static String printed() throws UnsupportedEncodingException {
        PrintStream before = System.out;
        ByteArrayOutputStream bytes = new ByteArrayOutputStream();
        System.setOut(new PrintStream(bytes, true, "UTF-8"));
        ReadmeExample.main(new String[0]);
        System.setOut(before);
        return bytes.toString("UTF-8").replace(System.lineSeparator(), "\n");
    }

    private static void everyTestIsNamed(String readme) throws IOException {
        try (DirectoryStream<Path> files = Files.newDirectoryStream(TESTS, "*Test.java")) {
            for (Path file : files) {
                String name = file.getFileName().toString().replace(".java", "");
                Checks.holds(name + " is named in README.md", readme.contains("| `" + name + "` |"));
            }
        }
    }
}
