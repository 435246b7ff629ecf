import java.io.IOException;

/** All promises, sentence by sentence: each one that names a boundary case has a test of its own. */
public final class SentencesTest {
    private SentencesTest() {}

    public static void main(String[] args) throws IOException {
        Document document = new Document();
        new CodeSentences(document).all();
        new BlocksSentences(document).all();
        new RanksSentences(document).all();
        new ReducingSentences(document).all();
        new DrawingSentences(document).all();
        document.close();
        Check.finish();
    }
}
