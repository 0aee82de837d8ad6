import java.io.IOException;
import java.nio.file.Files;
import java.nio.file.Path;
import java.util.ArrayList;
import java.util.List;
import java.util.Set;
import java.util.TreeSet;

/** The sentences of ../shared/DOC.md, by promise, and which of them a case has quoted. */
final class Document {
    static final int PROMISES = 36;

    private static final Path PLACE = Path.of("../shared/DOC.md");

    /** These ask nothing of an answer. */
    private static final Set<String> ASK_NOTHING = Set.of(
            "This class is not thread-safe.",
            "what later calls answer is free.");

    private final List<List<String>> sentences = new ArrayList<>();
    private final Set<String> quoted = new TreeSet<>();

    Document() throws IOException {
        for (int i = 0; i <= PROMISES; i++) {
            sentences.add(new ArrayList<>());
        }
        int promise = 0;
        boolean isCode = false;
        boolean isAsked = true;
        for (String line : Files.readAllLines(PLACE)) {
            if (line.startsWith("```")) {
                isCode = !isCode;
            } else if (line.startsWith("## Promise ")) {
                promise = Integer.parseInt(line.substring(11, line.indexOf(':')));
                isAsked = true;
            } else if (line.startsWith("## Not promised")) {
                isAsked = false;
            } else if (!isCode && isAsked && !line.isBlank() && !line.startsWith("#")
                    && !line.startsWith("Ahead of the calls") && !line.startsWith("A small controller chip")) {
                addSentences(promise, line);
            }
        }
    }

    private void addSentences(int promise, String line) {
        for (String sentence : line.split("(?<=\\.) ")) {
            boolean isHeading = sentence.indexOf(' ') < 0;
            if (!isHeading) {
                sentences.get(promise).add(sentence);
            }
        }
    }

    /** Returns false if no sentence of the promise has these words. */
    boolean quote(int promise, String words) {
        boolean isThere = false;
        for (String sentence : sentences.get(promise)) {
            if (sentence.contains(words)) {
                quoted.add(promise + ": " + sentence);
                isThere = true;
            }
        }
        return isThere;
    }

    List<String> unquoted() {
        List<String> left = new ArrayList<>();
        for (int promise = 0; promise <= PROMISES; promise++) {
            for (String sentence : sentences.get(promise)) {
                String told = promise + ": " + sentence;
                if (!quoted.contains(told) && !ASK_NOTHING.contains(sentence)) {
                    left.add(told);
                }
            }
        }
        return left;
    }

    int size() {
        return sentences.stream().mapToInt(List::size).sum();
    }
}
