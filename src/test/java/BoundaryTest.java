/** The document sentence by sentence: each that names a boundary case has checks of its own, under its own words. */
public final class BoundaryTest {
    public static void main(String[] args) throws Exception {
        Sentences.read();
        TermEdges.check();
        TextEdges.check();
        QueryEdges.check();
        ForecastEdges.check();
        ChangeEdges.check();
        HistoryEdges.check();
        Sentences.allQuoted();
        Check.finish("BoundaryTest");
    }
}
