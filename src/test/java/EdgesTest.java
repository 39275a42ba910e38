import java.io.IOException;

/** Each boundary case that the document names. */
public final class EdgesTest {
    public static void main(String[] args) throws IOException {
        Edges edges = new Edges();
        new RowEdges(edges).run();
        new IndexEdges(edges).run();
        new SemigroupEdges(edges).run();
        new KindEdges(edges).run();
        new WaysEdges(edges).run();
        new IdealEdges(edges).run();
        new GameEdges(edges).run();
        new FigureEdges(edges).run();
        new AgainEdges(edges).run();
        edges.end();
    }
}
