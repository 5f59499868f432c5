import java.io.IOException;
import java.nio.file.Files;
import java.nio.file.Path;
import java.util.ArrayList;
import java.util.List;

/** The sentences of the document: those of its terms, and those of each promise. Parts at a ';' stand alone. */
final class Document {
    static final int PROMISES = 35;
    static final int TERMS = 0;
    private static final Path PLACE = Path.of("../shared/DOC.md");

    private final List<List<String>> sentences = new ArrayList<>();

    Document() {
        for (int promise = TERMS; promise <= PROMISES; promise++) {
            sentences.add(new ArrayList<>());
        }
        String text = text();
        readTerms(text.substring(text.indexOf("\n## Terms\n") + 10, text.indexOf("\nExamples. ")));
        for (String section : text.split("\n## Promise ")) {
            if (Character.isDigit(section.charAt(0))) {
                readPromise(section);
            }
        }
    }

    private static String text() {
        try {
            return Files.readString(PLACE).split("\n## Not promised")[0];
        } catch (IOException e) {
            throw new IllegalStateException("the document cannot be read", e);
        }
    }

    List<String> of(int promise) {
        return sentences.get(promise);
    }

    private void readTerms(String text) {
        for (String paragraph : text.split("\n\n")) {
            readSentences(TERMS, paragraph.replaceAll("\\s+", " ").trim());
        }
    }

    private void readPromise(String section) {
        int promise = Integer.parseInt(section.substring(0, section.indexOf(':')));
        String[] lines = section.split("\n");
        for (int line = 1; line < lines.length; line++) {
            // A line that tells a parameter without a number only names it.
            if (lines[line].startsWith("- `")) {
                if (lines[line].matches(".*\\d.*")) {
                    sentences.get(promise).add(lines[line]);
                }
            } else {
                readSentences(promise, lines[line].replaceAll("^`[^`]*\\)[^`]*`: ", "").trim());
            }
        }
    }

    private void readSentences(int promise, String text) {
        for (String sentence : text.split("(?<=[.;]) ")) {
            if (!sentence.isEmpty()) {
                sentences.get(promise).add(sentence);
            }
        }
    }
}
