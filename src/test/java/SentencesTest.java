import java.io.File;
import java.io.IOException;
import java.nio.file.Files;
import java.nio.file.Path;
import java.util.regex.Matcher;
import java.util.regex.Pattern;

/** The tests that src/test/SENTENCES.md names are there, and are run. It is run where README.md is. */
public final class SentencesTest {
    private static final Checks CHECKS = new Checks();
    private static final Path TABLE = Path.of("src/test/SENTENCES.md");
    private static final File TESTS = new File("src/test/java");

    public static void main(String[] args) throws IOException {
        for (String line : Files.readString(TABLE).split("\n")) {
            if (line.startsWith("| ") && !line.equals("| Sentence | Tests |")) {
                CHECKS.due("tests for: " + line, testsIn(line) > 0, true);
            }
        }
        CHECKS.end();
    }

    private static int testsIn(String line) throws IOException {
        Matcher names = Pattern.compile("`([A-Z]\\w+)(?:\\.(\\w+))?`").matcher(line);
        int count = 0;
        while (names.find()) {
            count++;
            isRun(names.group(1), names.group(2));
        }
        return count;
    }

    private static void isRun(String test, String method) throws IOException {
        File[] files = TESTS.listFiles((folder, name) -> name.matches(test + "[a-zA-Z]*Test\\.java"));
        CHECKS.due("tests named " + test, files.length, 1);
        if (method != null && files.length == 1) {
            String text = Files.readString(files[0].toPath());
            // Once where it is written, and once at least where it is called.
            int places = text.split("\\b" + method + "\\(", -1).length - 1;
            CHECKS.due(test + "." + method + " is written and called", places >= 2, true);
        }
    }
}
