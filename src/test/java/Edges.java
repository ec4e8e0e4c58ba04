import java.util.ArrayList;
import java.util.HashMap;
import java.util.HashSet;
import java.util.List;
import java.util.Map;
import java.util.Set;

/**
 * Runs of calls behind the sentences of the document: each is told with the words that it tests, which
 * the document must have. In the end it is told which words of the Terms, which exceptions, and which
 * orders of two exceptions no run has stood behind.
 */
final class Edges {
    private static final Set<String> NO_EDGE = Set.of("Strokes.", "The plan.", "Tubes.", "Bending.", "The plant.",
            "Light.", "Circuits.", "Programs.", "The street.", "Bills.", "Exceptions.",
            "The class is not thread-safe.");

    private final Runs runs = new Runs();
    private final Document document = Document.read();
    private final boolean[] quotedTerms = new boolean[document.terms.length()];
    private final Map<Integer, boolean[]> quotedOf = new HashMap<>();
    private final Set<String> thrown = new HashSet<>();
    private final Set<String> orders = new HashSet<>();

    Edges() {
        for (int promise = 1; promise <= Document.PROMISES; promise++) {
            quotedOf.put(promise, new boolean[document.sayingOf(promise).length()]);
        }
    }

    /** A run behind words of the Terms. */
    void term(String words, String... texts) {
        quote(document.terms, words, quotedTerms);
        runs.run(words, texts);
    }

    /** A run behind words of a promise. */
    void says(int promise, String words, String... texts) {
        quote(document.sayingOf(promise), words, quotedOf.get(promise));
        runs.run("promise " + promise + ", " + words, texts);
    }

    /** A run in which a promise's method throws this exception, and in which it is called without one as well. */
    void thrown(int promise, String exception, String... texts) {
        String sentence = document.sentenceOf(promise, exception);
        quote(document.sayingOf(promise), sentence, quotedOf.get(promise));
        thrown.add(promise + " " + exception);
        String name = "promise " + promise + ", " + sentence;
        runs.run(name, texts);
        runs.due(name + ": it is thrown", String.valueOf(isThrown(promise, exception, texts)), "true");
        runs.due(name + ": another call is not", String.valueOf(isAnswered(promise, texts)), "true");
    }

    /** A run in which two exceptions of a promise's method apply, or nearly so; the first is thrown. */
    void order(int promise, String first, String second, String... texts) {
        List<String> listed = document.thrownBy(promise);
        String name = "promise " + promise + ", " + first + " before " + second;
        boolean isListed = listed.indexOf(first) >= 0 && listed.indexOf(first) < listed.indexOf(second);
        orders.add(promise + " " + first + " " + second);
        runs.run(name, texts);
        runs.due(name + ": so they are listed", String.valueOf(isListed), "true");
        runs.due(name + ": it is thrown", String.valueOf(isThrown(promise, first, texts)), "true");
    }

    private void quote(String text, String words, boolean[] quoted) {
        String plain = words.replaceAll("\\s+", " ").trim();
        int begin = text.indexOf(plain);
        runs.due("the document says: " + plain, String.valueOf(begin >= 0), "true");
        for (int i = Math.max(0, begin); begin >= 0 && i < begin + plain.length(); i++) {
            quoted[i] = true;
        }
    }

    private boolean isThrown(int promise, String exception, String... texts) {
        return callsOf(promise, texts).stream().anyMatch(call -> call.endsWith("= throws " + exception));
    }

    private boolean isAnswered(int promise, String... texts) {
        return callsOf(promise, texts).stream().anyMatch(call -> !call.contains("= throws "));
    }

    private List<String> callsOf(int promise, String... texts) {
        List<String> calls = new ArrayList<>(Runs.steps(String.join(";", texts)));
        calls.removeIf(call -> !call.startsWith(document.methodOf(promise) + "("));
        return calls;
    }

    void end() {
        runs.due("words of the Terms without a run", unquotedTerms().toString(), "[]");
        List<String> without = new ArrayList<>();
        for (int promise = 1; promise <= Document.PROMISES; promise++) {
            addUntested(promise, without);
            addUnquotedNumbers(promise, without);
        }
        runs.due("what promises say without a run", without.toString(), "[]");
        runs.end();
    }

    private List<String> unquotedTerms() {
        List<String> without = new ArrayList<>();
        int begin = 0;
        for (String sentence : document.terms.split("(?<=\\.) ")) {
            StringBuilder words = new StringBuilder();
            for (int i = begin; i < begin + sentence.length(); i++) {
                boolean isOpen = Character.isLetterOrDigit(document.terms.charAt(i)) && !quotedTerms[i];
                words.append(isOpen ? document.terms.charAt(i) : ' ');
            }
            begin += sentence.length() + 1;
            if (!NO_EDGE.contains(sentence) && !words.toString().isBlank()) {
                without.add(words.toString().replaceAll("\\s+", " ").trim());
            }
        }
        return without;
    }

    private void addUntested(int promise, List<String> without) {
        List<String> listed = document.thrownBy(promise);
        for (int first = 0; first < listed.size(); first++) {
            if (!thrown.contains(promise + " " + listed.get(first))) {
                without.add("promise " + promise + ": " + listed.get(first));
            }
            for (int second = first + 1; second < listed.size(); second++) {
                String order = listed.get(first) + " " + listed.get(second);
                if (!orders.contains(promise + " " + order)) {
                    without.add("promise " + promise + ": " + order);
                }
            }
        }
    }

    private void addUnquotedNumbers(int promise, List<String> without) {
        String saying = document.sayingOf(promise);
        boolean[] quoted = quotedOf.get(promise);
        boolean isQuoted = false;
        for (int i = 0; i < quoted.length; i++) {
            isQuoted |= quoted[i];
            if (Character.isDigit(saying.charAt(i)) && !quoted[i]) {
                without.add("promise " + promise + ": a number in: " + saying.substring(Math.max(0, i - 20), i + 1));
            }
        }
        if (!isQuoted) {
            without.add("promise " + promise);
        }
    }
}
