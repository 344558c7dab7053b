import java.io.File;
import java.io.IOException;
import java.lang.reflect.Method;
import java.nio.charset.StandardCharsets;
import java.nio.file.Files;
import java.nio.file.Path;
import java.util.ArrayList;
import java.util.Comparator;
import java.util.List;
import java.util.stream.Stream;

/**
 * What README.md shows of the use of the class compiles and runs, by the very commands that it shows, and
 * its answers are the document's: the model gives them too. It is run where README.md is.
 */
public final class ReadmeTest {
    private static final Checks CHECKS = new Checks();
    private static final String MAIN = "src/main/java/MazeForms.java";

    private final String readme;
    private final String example;
    private final Path place;

    private ReadmeTest(Path place) throws IOException {
        this.place = place;
        readme = Files.readString(Path.of("README.md"));
        example = blocks("java").get(0);
    }

    public static void main(String[] args) throws Exception {
        Path place = Files.createTempDirectory("readme");
        try {
            ReadmeTest test = new ReadmeTest(place);
            test.thereIsOneExample();
            test.everyCallIsShown();
            test.itsCommandsGiveTheAnswers();
            test.theModelGivesThemToo();
            test.oneTestAloneRuns();
            test.theScriptIsThere();
        } finally {
            deleteAll(place);
        }
        CHECKS.end();
    }

    private List<String> blocks(String kind) {
        List<String> found = new ArrayList<>();
        String begin = "\n```" + kind + "\n";
        for (int at = readme.indexOf(begin); at >= 0; at = readme.indexOf(begin, at + 1)) {
            int from = at + begin.length();
            found.add(readme.substring(from, readme.indexOf("```", from)));
        }
        return found;
    }

    private void thereIsOneExample() {
        CHECKS.due("examples in README.md", blocks("java").size(), 1);
        CHECKS.due("drawings in README.md", blocks("text").size(), 1);
        CHECKS.due("answers in README.md", answersShown().size() > 20, true);
    }

    private void everyCallIsShown() {
        for (Method method : MazeForms.class.getMethods()) {
            if (method.getDeclaringClass() == MazeForms.class) {
                String name = method.getName();
                CHECKS.due(name + " is called in the example", example.contains("maze." + name + "("), true);
                CHECKS.due(name + " is in the table", readme.contains("| `" + name + "("), true);
            }
        }
    }

    /** What stands between "//" and ":" behind each call whose answer is shown. */
    private List<String> answersShown() {
        List<String> answers = new ArrayList<>();
        for (String line : example.split("\n")) {
            if (line.strip().startsWith("show(maze.")) {
                answers.add(line.substring(line.indexOf("// ") + 3, line.lastIndexOf(": ")));
            }
        }
        return answers;
    }

    private String allThatIsShown() {
        return String.join("\n", answersShown()) + "\n" + blocks("text").get(0);
    }

    private void itsCommandsGiveTheAnswers() throws Exception {
        Path beside = Files.createDirectory(place.resolve("use"));
        copyTo(beside, MAIN);
        Files.writeString(beside.resolve("Example.java"), example);
        CHECKS.due("the example", output(beside, "sh", "-ec", blocks("sh").get(0)), allThatIsShown());
    }

    private void theModelGivesThemToo() throws Exception {
        Path beside = Files.createDirectory(place.resolve("model"));
        String classes = new File(System.getProperty("java.class.path")).getAbsolutePath();
        Files.writeString(beside.resolve("Example.java"), example.replace("MazeForms", "Model"));
        CHECKS.due("compiling for the model", output(beside, "javac", "-cp", classes, "Example.java"), "");
        String given = output(beside, "java", "-cp", "." + File.pathSeparator + classes, "Example");
        CHECKS.due("the example with the model", given, allThatIsShown());
    }

    private void oneTestAloneRuns() throws Exception {
        Path beside = Files.createDirectory(place.resolve("tests"));
        copyTo(beside, MAIN);
        for (File file : new File("src/test/java").listFiles()) {
            copyTo(beside, "src/test/java/" + file.getName());
        }
        CHECKS.due("one test alone", output(beside, "sh", "-ec", blocks("sh").get(2)), "");
    }

    private void theScriptIsThere() {
        CHECKS.due("the script", blocks("sh").get(1).strip(), ".ci/run");
        CHECKS.due("it can be run", new File(".ci/run").canExecute(), true);
    }

    private static void copyTo(Path beside, String file) throws IOException {
        Path copy = beside.resolve(file);
        Files.createDirectories(copy.getParent());
        Files.copy(Path.of(file), copy);
    }

    /** What a command prints, and its exit code if that is not 0. What goes wrong is told where tests print it. */
    private static String output(Path where, String... command) throws Exception {
        Process process = new ProcessBuilder(command).directory(where.toFile())
                .redirectError(ProcessBuilder.Redirect.INHERIT).start();
        String text = new String(process.getInputStream().readAllBytes(), StandardCharsets.UTF_8);
        int code = process.waitFor();
        return code == 0 ? text : text + "exit code " + code;
    }

    private static void deleteAll(Path place) throws IOException {
        try (Stream<Path> all = Files.walk(place)) {
            all.sorted(Comparator.reverseOrder()).forEach(path -> path.toFile().delete());
        }
    }
}
