import java.io.IOException;
import java.nio.file.Path;

/** Each sentence of the document that names a bound, an edge or an exception has a test of its own. */
public final class EdgeTest {
    public static void main(String[] args) throws IOException {
        Sentences sentences = new Sentences(Path.of("../shared/DOC.md"));
        AlgebraEdges.all(sentences);
        FormulaEdges.all(sentences);
        ProofEdges.all(sentences);
        FrameEdges.all(sentences);
        BetweenEdges.all(sentences);
        GrammarEdges.all(sentences);
        sentences.end();
        manyCalls();
        apart();
        Check.end("EdgeTest");
    }

    /** "An object is used for at most 512 calls after it has been made": all of them are answered, as dear as they are. */
    private static void manyCalls() {
        Residuary x = new Residuary();
        Build.all(x, "v0 v1 v2 v3 <0,1 <1,2 &4,5 <0,2 <6,7");
        x.chain('g', 8);
        AlgebraEdges.threeAboveOne(x);
        for (int call = 9 + 1 + 7; call < 512; call++) {
            switch (call % 5) {
                case 0:
                    Check.isTrue("isTrue, call " + call, x.isTrue());
                    break;
                case 1:
                    Check.isTrue("isValid, call " + call, x.isValid(0, 8));
                    break;
                case 2:
                    Check.isTrue("holdsAlways, call " + call, x.holdsAlways(8));
                    break;
                case 3:
                    Check.isFalse("isProved, call " + call, x.isProved('w', 8));
                    break;
                default:
                    Check.same("count, call " + call, x.count(5, false), 44);
                    break;
            }
        }
    }

    /** What one object is told is nothing to another one. */
    private static void apart() {
        Residuary x = new Residuary();
        Residuary y = new Residuary();
        AlgebraEdges.fill(x);
        FormulaEdges.fill(x, 40);
        x.world();
        x.word(0, 0);
        x.say(0);
        x.four(0, 'b');
        x.fact(0, 100);
        x.rule(0, -1, 1, 100);
        Check.same("an object apart", Portrait.of(y), Portrait.of(new Residuary()));
    }
}
