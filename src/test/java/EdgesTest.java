/** The boundary cases of the terms and of the promises 1 to 39, a test for each sentence. */
public final class EdgesTest {
    private static final int PROMISES = 39;

    private EdgesTest() {
    }

    public static void main(String[] args) {
        Edges[] parts = {
            new TermsEdges(), new MinuteEdges(), new StateEdges(), new HouseEdges(), new GuardsEdges(),
            new WorksEdges(), new TimeEdges(), new TextsEdges(), new HistoryEdges(), new ToldEdges(),
            new WorkedOutEdges()
        };
        for (Edges part : parts) {
            part.run();
        }
        int tests = 0;
        for (int promise = Edges.TERMS; promise <= PROMISES; promise++) {
            Check.holds("there are tests of promise " + promise, Sentences.testsOf(promise) > 0);
            tests += Sentences.testsOf(promise);
        }
        System.out.println(tests + " tests of single sentences");
        Sentences.report();
        Check.end();
    }
}
