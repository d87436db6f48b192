import java.io.IOException;

/**
 * One test for each sentence, or part of one, of the document's first words, its terms and its promises:
 * what it names at the edges (too small, too large, empty, full, around an edge, refused) and just beside them.
 */
public final class SentencesTest {
    private SentencesTest() {
    }

    public static void main(String[] args) throws IOException {
        Sentences sentences = new Sentences();
        new WholeSentences(sentences).all();
        new BoardSentences(sentences).all();
        new LinesSentences(sentences).all();
        new ValuesSentences(sentences).all();
        new FollowingSentences(sentences).all();
        new RefusedSentences(sentences).all();
        sentences.compareWithDocument();
        sentences.check.end("SentencesTest");
    }
}
