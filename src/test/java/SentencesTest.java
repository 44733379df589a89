import java.io.IOException;
import java.nio.file.Files;
import java.nio.file.Path;

/** Each sentence of the document's promises and terms has checks of its own. */
public final class SentencesTest {
    public static void main(String[] args) throws IOException {
        Path root = Path.of(System.getProperty("project.root", "."));
        Due due = new Due("SentencesTest");
        Sentences sentences = new Sentences(due, Files.readString(root.resolve("../shared/DOC.md")));
        new PromiseSentences(sentences).all();
        new TermSentences(sentences).all();
        new SearchSentences(sentences).all();
        new KeptSentences(sentences).all();
        sentences.end();
        due.end();
    }
}
