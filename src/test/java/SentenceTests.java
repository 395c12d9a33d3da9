import java.io.IOException;
import java.nio.file.Path;

/** Each sentence of the document's terms and promises has a test that quotes it; the document is the argument. */
public final class SentenceTests {
    private SentenceTests() {
    }

    public static void main(String[] args) throws IOException {
        Sentences sentences = new Sentences(Path.of(args[0]));
        new RefusedCalls(sentences).test();
        new TermSentences(sentences).test();
        new ChangeSentences(sentences).test();
        new AskSentences(sentences).test();
        new PlanSentences(sentences).test();
        if (!sentences.allHold()) {
            System.exit(1);
        }
    }
}
