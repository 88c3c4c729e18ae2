/** The edges that the sentences of the document name, promise by promise: each check names its promise and the words. */
public final class EdgeTest {
    private EdgeTest() {
    }

    public static void main(String[] args) {
        InputEdges.check();
        ScriptEdges.check();
        NumberEdges.check();
        TimeEdges.check();
        BedEdges.check();
        PriceEdges.check();
        PassEdges.check();
        CardEdges.check();
        VisitEdges.check();
        FineEdges.check();
        UndoEdges.check();
        AccountEdges.check();
        ReportEdges.check();
        Check.everyPromise(1, 65);
        Check.end("EdgeTest");
    }
}
