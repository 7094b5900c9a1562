import java.io.IOException;

/** Each sentence of the document that names a boundary case, by itself. */
public final class EdgesTest {
    private EdgesTest() {
    }

    public static void main(String[] args) throws IOException {
        Edge.readDocument();
        TermsEdges.all();
        TapeEdges.all();
        TableEdges.all();
        RimEdges.all();
        SweepEdges.all();
        CountEdges.all();
        Edge.finish();
    }
}
