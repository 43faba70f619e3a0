import java.io.IOException;

/** The document, sentence by sentence: its edges, and what refused calls leave as it was. */
public final class SentencesTest {
    public static void main(String[] args) throws IOException {
        Sentences s = new Sentences();
        try {
            all(s);
        } catch (RuntimeException | Error e) {
            s.threw(e);
            throw e;
        }
        s.end();
    }

    private static void all(Sentences s) {
        new KindEdges(s).all();
        new RowEdges(s).all();
        new CauseEdges(s).all();
        new BoxEdges(s).all();
        new PathEdges(s).all();
        new TurnAndFillEdges(s).all();
        new PourEdges(s).all();
        new SumEdges(s).all();
    }
}
