/** A test of its own for each sentence of the document that names a boundary case. */
public final class EdgesTest {
    public static void main(String[] args) {
        TermsEdges.run();
        AimsEdges.run();
        PlanEdges.run();
        SetsEdges.run();
        Sentences.allAreTested();
        Checks.end();
    }
}
