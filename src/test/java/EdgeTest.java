import java.io.IOException;

/** Each sentence of the document that names a boundary case, by its own words. */
public final class EdgeTest {
    public static void main(String[] args) throws IOException {
        TermEdges.all();
        DayEdges.all();
        TextEdges.all();
        StateEdges.all();
        LookEdges.all();
        ActionEdges.all();
        AheadEdges.all();
        ScriptEdges.all();
        Edge.compareWithDocument();
        Check.end();
    }
}
