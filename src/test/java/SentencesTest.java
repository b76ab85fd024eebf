import java.io.IOException;

/** Every sentence of the document that names a case has a test of its own here, which quotes it. */
public final class SentencesTest {
    public static void main(String[] args) throws IOException {
        Sentences doc = new Sentences();
        new FrameSentences(doc).run();
        new ThingSentences(doc).run();
        new LawSentences(doc).run();
        new ClaimSentences(doc).run();
        new OfferSentences(doc).run();
        new RefusalSentences(doc).run();
        new PromiseSentences(doc).run();
        doc.end();
    }
}
