import java.io.IOException;
import java.nio.file.Files;
import java.nio.file.Path;

/** The document's own example, call by call, and the same read out of the document if it is there. */
public final class ExampleTest {
    private static final String EXAMPLE = """
            point(0, 0) = 0; point(30, 0) = 1; point(30, 40) = 2; point(60, 0) = 3; stroke(0, 1) = 1;
            stroke(1, 2) = 2; stroke(2, 0) = 3; stroke(1, 3) = 4; erase(1, 3) = 3; stroke(1, 3) = 4;
            parts() = 1; odd() = 2; fewest() = 1; planned() = 1; points(0) = 5; through(0, 3) = 1;
            corners(0, false) = 3; meanLength() = 37.5; make(0, 12) = 0; length(0) = 150;
            state(0) = s; risk(0) = 0; seed(3) = 1; bend(0) = 2; bend(0) = 1; bend(0) = 0;
            put(0, true, 3) = 1000; mend(0) = true; bombard(0, 300) = 1225; bombard(0, 300) = 1281;
            bombard(0, 300) = 1295; pump(0, 60) = 0; gas(0, true) = 5; fill(0, 'a', 14) = 23;
            colour(0) = 23; gives(0) = 90; air(4) = 20; circuit(180) = 0; join(0, 0) = 160;
            load(0) = 160; circuitIs(0) = -; program(0, 0, true) = false; chase(0, 3, 5) = 1;
            shows(0, 1) = false; hours(25) = 1; lit(0) = 2; allow(10) = 9999; dark(22, 5) = 0;
            breach() = 0; hail(11) = 1; cause(0) = 0; part(0, 0) = 0;
            smash(0) = throws UnsupportedOperationException; bill() = 86; filledShare() = 0.0;
            checksum() = 11513315296; isSound() = true
            """;

    public static void main(String[] args) throws IOException {
        Runs runs = new Runs();
        runs.run("the example", EXAMPLE);
        Path document = Path.of(System.getProperty("shared", "../shared"), "DOC.md");
        if (Files.exists(document)) {
            runs.run("the document's example", exampleIn(Files.readString(document)));
        }
        runs.end();
    }

    private static String exampleIn(String document) {
        int begin = document.indexOf("```text", document.indexOf("First example:")) + "```text".length();
        String text = document.substring(begin, document.indexOf("```", begin)).trim();
        return text.substring(0, text.length() - 1);
    }
}
