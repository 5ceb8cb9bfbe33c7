import java.io.IOException;

/** Each sentence of the document, with the edges that it names. */
public final class SentenceTests {
    public static void main(String[] args) throws IOException {
        Sentences told = new Sentences();
        new TermSentences(told).go();
        new PathSentences(told).go();
        new OtherSentences(told).go();
        new SungPromises(told).go();
        new SongPromises(told).go();
        new OtherPromises(told).go();
        told.end();
    }
}
