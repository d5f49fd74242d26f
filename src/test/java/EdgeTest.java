import java.io.IOException;
import java.nio.file.Path;

/** For each sentence of the document that names an edge a test of its own, and a look that none is left out. */
public final class EdgeTest {
    private EdgeTest() {
    }

    public static void main(String[] args) throws IOException {
        Edges edges = new Edges();
        WordEdges.all(edges);
        WritingEdges.all(edges);
        ReaderEdges.all(edges);
        QueryEdges.all(edges);
        MatchEdges.all(edges);
        SearchEdges.all(edges);
        FigureEdges.all(edges);
        edges.compareWith(Path.of("..", "shared", "DOC.md"));
        Calls.due.end();
    }
}
