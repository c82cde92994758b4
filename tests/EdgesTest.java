/** For each sentence of the document that names a boundary case, a test of its own that quotes it. */
public final class EdgesTest {
    private EdgesTest() {
    }

    public static void main(String[] args) {
        TextEdges.run();
        TimeEdges.run();
        PagerEdges.run();
        CallEdges.run();
        ForetellEdges.run();
        ChangeEdges.run();
        IndexEdges.run();
        Sentence.allAreQuoted();
        Check.end();
    }
}
