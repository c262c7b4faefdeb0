import java.io.IOException;

/** Each sentence of the document with a test of its own, in seven parts. */
public final class SentenceTest {
    public static void main(String[] args) throws IOException {
        TermsSentences.all();
        CableSentences.all();
        RiverSentences.all();
        FerrySentences.all();
        TextSentences.all();
        LookSentences.all();
        OutlookSentences.all();
        Sentences.end();
        Check.end();
    }
}
