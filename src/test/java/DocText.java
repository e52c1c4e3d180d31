import java.io.IOException;
import java.nio.file.Files;
import java.nio.file.Path;
import java.util.LinkedHashSet;
import java.util.Set;

/** The sentences of the document: those of its Terms, named by their headings, and those of its promises. */
final class DocText {
    private final Set<String> sentences = new LinkedHashSet<>();
    private String where = "";
    private boolean isGrammar = false;

    private DocText() {
    }

    static Set<String> sentences(Path document) throws IOException {
        DocText text = new DocText();
        for (String line : Files.readAllLines(document)) {
            text.read(line.trim());
        }
        return text.sentences;
    }

    private void read(String line) {
        if (line.startsWith("## ")) {
            where = line.startsWith("## Promise ") ? line.substring(3, line.indexOf(':')) : "";
        } else if (line.matches("\\d\\. \\w+")) {
            where = line.substring(3);
        } else if (line.startsWith("```")) {
            isGrammar = !isGrammar;
        } else if (!where.isEmpty() && !line.isEmpty()) {
            addSentences(line);
        }
    }

    private void addSentences(String line) {
        if (isGrammar || line.startsWith("- ")) {
            sentences.add(Sentence.named(where, line));
            return;
        }
        // The face of a call stands in front of what it does; FaceTest looks at it.
        String told = line.replaceFirst("^`[^`]*\\([^`]*\\)[^`]*`: ", "");
        for (String sentence : told.split("(?<=[.)]) (?=\\(?[A-Z])")) {
            sentences.add(Sentence.named(where, sentence));
        }
    }
}
