import java.io.IOException;
import java.nio.file.Files;
import java.nio.file.Path;
import java.util.Collections;
import java.util.LinkedHashSet;
import java.util.Set;

/** The sentences of the document that promise something, and which of them no test has held yet. */
final class Document {
    private static final Path PLACE = Path.of("..", "shared", "DOC.md");
    /** A full stop; the dots of "0 .. 7F" are none. */
    private static final String END_OF_SENTENCE = "(?<=[^. ]\\.) ";
    private static final String FACE_OF_PROMISE = "^`[^`]*`: ";

    private final Set<String> sentences = new LinkedHashSet<>();
    private final Set<String> notHeld = new LinkedHashSet<>();

    static Document read() throws IOException {
        Document document = new Document();
        boolean promises = false;
        for (String line : Files.readAllLines(PLACE)) {
            if (line.startsWith("## ")) {
                promises = isPromising(line.substring(3));
            } else if (promises && !line.startsWith("```") && !line.isBlank()) {
                String text = line.strip().replaceFirst(FACE_OF_PROMISE, "");
                Collections.addAll(document.sentences, text.split(END_OF_SENTENCE));
            }
        }
        document.notHeld.addAll(document.sentences);
        return document;
    }

    private static boolean isPromising(String heading) {
        return heading.equals("What it is") || heading.equals("Terms") || heading.startsWith("Promise ");
    }

    /** Runs the tests that hold a sentence, which must stand in the document word by word. */
    void hold(String sentence, Runnable... tests) {
        Check.by(sentence);
        Check.due("the document has the sentence", sentences.contains(sentence), true);
        notHeld.remove(sentence);
        for (Runnable test : tests) {
            test.run();
        }
    }

    /** A sentence that only sums up what others say. */
    void leaveOut(String sentence) {
        hold(sentence);
    }

    void allAreHeld() {
        for (String sentence : notHeld) {
            Check.by(sentence);
            Check.due("a test of this sentence", false, true);
        }
    }
}
