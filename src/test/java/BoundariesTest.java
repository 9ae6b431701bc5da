import java.io.IOException;
import java.nio.file.Path;

/**
 * A test for each sentence of the document's "Terms" and promises: the last value that is taken and the first that
 * is refused, nothing there yet, all places taken, several exceptions at once, what a refused call leaves as it
 * was, and what holds again after clear. A sentence without a test is told, and so is one that the document does
 * not have.
 */
public final class BoundariesTest {
    private static final int MOST_CALLS = 512;

    private BoundariesTest() {
    }

    /** What the document says before its terms: an object answers this many calls. */
    private static void theLastCall() {
        Checks.begin("What it is, \"An object is used for at most 512 calls after it has been made\"");
        FailDiagnose x = Chips.full();
        for (int call = Chips.CALLS_OF_FULL + 1; call <= MOST_CALLS - 3; call++) {
            Checks.due("run", x.run(), 480);
        }
        Checks.due("the 510th call", x.join(), 2);
        Checks.due("the 511th call", x.count(8), 2);
        Checks.due("the 512th call", x.share(9), 2 * 2520);
    }

    public static void main(String[] args) throws IOException {
        Sentences sentences = new Sentences(Path.of("../shared/DOC.md"));
        CircuitTerms.tests(sentences);
        SuspectTerms.tests(sentences);
        ChainAndShapeTerms.tests(sentences);
        RefusedCalls.tests(sentences);
        CircuitPromises.tests(sentences);
        SuspectPromises.tests(sentences);
        OtherPromises.tests(sentences);
        sentences.tellUntested();
        theLastCall();
        if (Checks.wrong() != 0) {
            System.out.println(Checks.wrong() + " answers are not as due");
            System.exit(1);
        }
    }
}
