import java.io.IOException;
import java.nio.charset.StandardCharsets;
import java.nio.file.Files;
import java.nio.file.Path;
import java.nio.file.StandardCopyOption;
import java.util.ArrayList;
import java.util.Comparator;
import java.util.List;
import java.util.Set;
import java.util.TreeSet;
import java.util.regex.Matcher;
import java.util.regex.Pattern;
import java.util.stream.Stream;

/**
 * What README.md shows: its program is compiled and run by its own commands, and must print what it
 * says; the command that runs the tests must be there, and the list of tests must name each of them.
 */
public final class ReadmeTest {
    private static final Path README = Path.of("README.md");
    private static final Path SOURCE = Path.of("src/main/java/Noblesign.java");
    private static final Path TESTS = Path.of("src/test/java");
    /** Stands for the project's folder, so that README.md's program and what it is compiled to leave that clean. */
    private static final Path PLACE = Path.of("build/readme");

    private final Runs runs = new Runs();
    private final String usage;
    private final String testing;

    private ReadmeTest(String readme) {
        usage = section(readme, "Using it");
        testing = section(readme, "Running the tests");
    }

    public static void main(String[] args) throws IOException, InterruptedException {
        ReadmeTest test = new ReadmeTest(Files.readString(README));
        test.program();
        test.commandOfTests();
        test.listOfTests();
        test.runs.end();
    }

    private static String section(String readme, String heading) {
        Matcher found = Pattern.compile("(?ms)^## " + heading + "$(.*?)(?=^## |\\z)").matcher(readme);
        return found.find() ? found.group(1) : "";
    }

    private static List<String> blocks(String section, String kind) {
        List<String> blocks = new ArrayList<>();
        Matcher found = Pattern.compile("(?ms)^```" + kind + "\\n(.*?)^```$").matcher(section);
        while (found.find()) {
            blocks.add(found.group(1));
        }
        return blocks;
    }

    /** The only block of a kind; one block more, or none, would leave some of the page untested. */
    private String block(String section, String kind) {
        List<String> blocks = blocks(section, kind);
        runs.due("README.md's blocks of " + kind, String.valueOf(blocks.size()), "1");
        return blocks.isEmpty() ? "" : blocks.get(0);
    }

    private void program() throws IOException, InterruptedException {
        String program = block(usage, "java");
        String commands = block(usage, "sh");
        String printed = block(usage, "text");
        Matcher name = Pattern.compile("public final class (\\w+) \\{").matcher(program);
        boolean isNamed = name.find();
        runs.due("README.md's program has a name", String.valueOf(isNamed), "true");
        if (!isNamed) {
            return;
        }
        runs.due("README.md says what its file is called", String.valueOf(usage.contains("`" + name.group(1) + ".java`")),
                "true");
        clear(PLACE);
        Files.createDirectories(PLACE.resolve(SOURCE).getParent());
        Files.copy(SOURCE, PLACE.resolve(SOURCE), StandardCopyOption.REPLACE_EXISTING);
        Files.writeString(PLACE.resolve(name.group(1) + ".java"), program);
        runs.due("README.md's program prints", answer(commands), printed + "exit 0\n");
    }

    /** What an earlier test has compiled must not answer for this one. */
    private static void clear(Path place) throws IOException {
        if (!Files.exists(place)) {
            return;
        }
        try (Stream<Path> below = Files.walk(place)) {
            for (Path path : below.sorted(Comparator.reverseOrder()).toList()) {
                Files.delete(path);
            }
        }
    }

    private static String answer(String commands) throws IOException, InterruptedException {
        // Java tells of its own settings on the standard error, which is no answer of the program.
        Process process = new ProcessBuilder("sh", "-e", "-c", commands)
                .directory(PLACE.toFile()).redirectError(ProcessBuilder.Redirect.INHERIT).start();
        process.getOutputStream().close();
        String printed = new String(process.getInputStream().readAllBytes(), StandardCharsets.UTF_8);
        return printed + "exit " + process.waitFor() + "\n";
    }

    private void commandOfTests() {
        String command = block(testing, "sh").trim();
        runs.due("README.md's command of the tests", command, ".ci/run");
        runs.due("it can be run", String.valueOf(Files.isExecutable(Path.of(command))), "true");
    }

    private void listOfTests() throws IOException {
        Set<String> there = classesOfTests();
        Set<String> named = new TreeSet<>();
        Matcher names = Pattern.compile("`([A-Z]\\w+)`").matcher(testing);
        while (names.find()) {
            named.add(names.group(1));
        }
        Set<String> gone = new TreeSet<>(named);
        gone.removeAll(there);
        runs.due("what README.md names among the tests and is not there", gone.toString(), "[]");
        Set<String> unnamed = new TreeSet<>(there);
        unnamed.removeIf(name -> named.contains(name) || !name.endsWith("Test"));
        runs.due("the tests that README.md does not name", unnamed.toString(), "[]");
    }

    private static Set<String> classesOfTests() throws IOException {
        Set<String> classes = new TreeSet<>();
        try (Stream<Path> files = Files.list(TESTS)) {
            files.forEach(file -> classes.add(file.getFileName().toString().replace(".java", "")));
        }
        return classes;
    }
}
