import java.io.IOException;

/** Each sentence of the document that names a boundary case, one test for each. */
public final class EdgeTest {
    private EdgeTest() {
    }

    public static void main(String[] args) throws IOException {
        Edges.readDocument();
        TextEdges.run();
        StateEdges.run();
        DayEdges.run();
        ChoiceEdges.run();
        ChanceEdges.run();
        SheetEdges.run();
        if (Edges.end() != 0) {
            System.exit(1);
        }
    }
}
