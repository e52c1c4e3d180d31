import java.io.IOException;
import java.nio.file.Files;
import java.nio.file.Path;
import java.nio.file.Paths;
import java.util.Set;
import java.util.TreeSet;

/** Each sentence of the document's Terms and promises, with checks of its own. Runs in the project's folder. */
public final class SentencesTest {
    private static final Path DOCUMENT = Paths.get("../shared/DOC.md");

    public static void main(String[] args) throws IOException {
        RulesSentences.all();
        KindsSentences.all();
        TextSentences.all();
        RowSentences.all();
        SlotSentences.all();
        MoveSentences.all();
        WholeRowSentences.all();
        ProgramSentences.all();
        compareWithDocument();
        Check.end("SentencesTest");
    }

    private static void compareWithDocument() throws IOException {
        if (!Files.isReadable(DOCUMENT)) {
            System.out.println("SentencesTest: no document here, so its sentences are not looked up");
            return;
        }
        Set<String> missing = DocText.sentences(DOCUMENT);
        Set<String> foreign = new TreeSet<>(Sentence.held());
        foreign.removeAll(missing);
        missing.removeAll(Sentence.held());
        Check.due("sentences of the document without a test", missing, Set.of());
        Check.due("tests of what the document does not say", foreign, Set.of());
    }
}
