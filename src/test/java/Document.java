import java.io.IOException;
import java.nio.file.Files;
import java.nio.file.Path;
import java.util.ArrayList;
import java.util.List;
import java.util.regex.Matcher;
import java.util.regex.Pattern;

/** What ../shared/DOC.md says: its Terms, and what it says of each promise. */
final class Document {
    static final int PROMISES = 47;

    final String terms;
    // From 1 on, as the promises are numbered; what stands between a promise's heading and the next one.
    private final String[] promises = new String[PROMISES + 1];
    private final String[] methods = new String[PROMISES + 1];

    private Document(String text) {
        int begin = text.indexOf("## Terms");
        terms = oneSpaced(text.substring(begin + "## Terms".length(), text.indexOf("<p>Examples:", begin)));
        Matcher headings = Pattern.compile("(?m)^## Promise (\\d+): (.*)$").matcher(text);
        while (headings.find()) {
            int number = Integer.parseInt(headings.group(1));
            methods[number] = headings.group(2).trim();
            promises[number] = oneSpaced(text.substring(headings.end(), text.indexOf("\n## ", headings.end())));
        }
    }

    static Document read() {
        try {
            return new Document(Files.readString(Path.of(System.getProperty("shared", "../shared"), "DOC.md")));
        } catch (IOException e) {
            throw new IllegalStateException("the document is not there", e);
        }
    }

    private static String oneSpaced(String text) {
        return text.replaceAll("\\s+", " ").trim();
    }

    /** The name of the promise's method, as its heading tells it. */
    String methodOf(int promise) {
        return methods[promise];
    }

    /** What is said of a promise, without the line of code that begins it. */
    String sayingOf(int promise) {
        return promises[promise].replaceFirst("^`[^`]*`: ", "");
    }

    /** The names of the exceptions of a promise, in the order in which they are listed. */
    List<String> thrownBy(int promise) {
        List<String> names = new ArrayList<>();
        Matcher lines = Pattern.compile("Throws `(\\w+)` if ").matcher(promises[promise]);
        while (lines.find()) {
            names.add(lines.group(1));
        }
        return names;
    }

    /** The sentence that tells when a promise's method throws this exception. */
    String sentenceOf(int promise, String exception) {
        String saying = promises[promise];
        int begin = saying.indexOf("Throws `" + exception + "` if ");
        if (begin < 0) {
            throw new IllegalStateException("promise " + promise + " lists no " + exception);
        }
        int next = saying.indexOf(" Throws `", begin + 1);
        return next < 0 ? saying.substring(begin) : saying.substring(begin, next);
    }
}
