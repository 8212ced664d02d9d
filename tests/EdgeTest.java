import java.io.IOException;
import java.nio.file.Path;

/** Each sentence of the document that names a bound, an edge or an exception has a test of its own. */
public final class EdgeTest {
    public static void main(String[] args) throws IOException {
        Sentences sentences = new Sentences(Path.of("../shared/DOC.md"));
        AlgebraEdges.all(sentences);
        FormulaEdges.all(sentences);
        ProofEdges.all(sentences);
        FrameEdges.all(sentences);
        BetweenEdges.all(sentences);
        GrammarEdges.all(sentences);
        sentences.end();
        Check.end("EdgeTest");
    }
}
