import java.io.IOException;
import java.nio.file.Path;

/**
 * A test for each sentence of the document's head, "Terms" and promises: the last value that is taken and the first
 * that is refused, nothing there yet, all places taken, several exceptions at once, what a refused call leaves as it
 * was, and what holds again after clear. A sentence without a test is told, and so is one that the document does
 * not have.
 */
public final class BoundariesTest {
    private BoundariesTest() {
    }

    public static void main(String[] args) throws IOException {
        Sentences sentences = new Sentences(Path.of("../shared/DOC.md"));
        WhatItIs.tests(sentences);
        CircuitTerms.tests(sentences);
        SuspectTerms.tests(sentences);
        ChainAndShapeTerms.tests(sentences);
        RefusedCalls.tests(sentences);
        CircuitPromises.tests(sentences);
        SuspectPromises.tests(sentences);
        OtherPromises.tests(sentences);
        sentences.tellUntested();
        if (Checks.wrong() != 0) {
            System.out.println(Checks.wrong() + " answers are not as due");
            System.exit(1);
        }
    }
}
