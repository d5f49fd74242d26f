import java.io.IOException;
import java.nio.file.Files;
import java.nio.file.Path;
import java.util.Set;
import java.util.TreeSet;
import java.util.regex.Matcher;
import java.util.regex.Pattern;

/**
 * Runs tests, each of a sentence of the document, and looks that each sentence there that names an
 * edge has one. Sentences of the terms have the number 0, others that of their promise.
 */
final class Edges {
    /** What a line of a promise has if it names an edge. */
    private static final Pattern EDGE =
            Pattern.compile("^Throws|\\d|without|none|lost|stays|empty|were deleted not|how many are");
    /** Sentences of fewer words are headings. */
    private static final int FEWEST_WORDS = 3;

    private final Set<String> tested = new TreeSet<>();

    void of(int promise, String sentence, Runnable test) {
        String name = promise + ": " + sentence;
        int ahead = Calls.due.checked();
        Calls.due.head("[" + name + "] ");
        Object answer = Due.answerOf(() -> {
            test.run();
            return "an end";
        });
        Calls.due.same("the test", answer, "an end");
        Calls.due.same("the test looks at something", Calls.due.checked() > ahead + 1, true);
        Calls.due.head("");
        tested.add(name);
    }

    /** Looks that the sentences that were tested are the document's, and that none is left out. */
    void compareWith(Path document) throws IOException {
        String text = Files.readString(document);
        Set<String> all = new TreeSet<>();
        Set<String> edges = new TreeSet<>();
        int terms = text.indexOf("## Terms\n");
        String words = text.substring(terms + "## Terms\n".length(), text.indexOf("Ahead of the calls"));
        addSentences(text.substring(0, terms), 0, all);
        addSentences(words, 0, all);
        addSentences(words, FEWEST_WORDS, edges);
        addPromises(text, all, edges);
        Set<String> left = new TreeSet<>(edges);
        left.removeAll(tested);
        Calls.due.same("sentences that name an edge and have no test", left, Set.of());
        Set<String> strange = new TreeSet<>(tested);
        strange.removeAll(all);
        Calls.due.same("sentences that the document does not have", strange, Set.of());
        Calls.due.same("the document has sentences", edges.size() > 100, true);
    }

    /** Adds the sentences of the terms that have so many words at least. */
    private static void addSentences(String text, int fewestWords, Set<String> sentences) {
        String plain = text.replace("<p>", " ").replaceAll("\\s+", " ").trim();
        for (String sentence : plain.split("(?<=\\.) ")) {
            if (sentence.split(" ").length >= fewestWords) {
                sentences.add("0: " + sentence);
            }
        }
    }

    private static void addPromises(String text, Set<String> all, Set<String> edges) {
        Matcher promise = Pattern.compile("## Promise (\\d+):[^\n]*\n(.*?)(?=\n## )", Pattern.DOTALL).matcher(text);
        while (promise.find()) {
            for (String line : promise.group(2).split("\n")) {
                // A promise begins with its signature, in which numbers are no edges.
                String sentence = line.replaceFirst("^`[^`]*`: ", "");
                all.add(promise.group(1) + ": " + sentence);
                if (EDGE.matcher(sentence).find()) {
                    edges.add(promise.group(1) + ": " + sentence);
                }
            }
        }
    }
}
