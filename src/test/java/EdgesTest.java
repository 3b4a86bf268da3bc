/** Each sentence of the document's Terms and promises, at its boundaries: each in a test of its own, none left out. */
public final class EdgesTest {
    public static void main(String[] args) {
        EdgeSieges.run();
        EdgeContracts.run();
        EdgeFaults.run();
        EdgeMonths.run();
        EdgeTrying.run();
        EdgeBelief.run();
        EdgeTapes.run();
        EdgeAnswers.run();
        EdgeImages.run();
        Sentence.allAreQuoted();
        Check.end("EdgesTest");
    }
}
