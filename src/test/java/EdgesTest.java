import java.io.IOException;

/** Every sentence of the document that names an edge, each with a test of its own. */
public final class EdgesTest {
    public static void main(String[] args) throws IOException {
        Edges edges = new Edges();
        new TextEdges(edges).all();
        new ExprEdges(edges).all();
        new StateEdges(edges).all();
        new AheadEdges(edges).all();
        new ThingsEdges(edges).all();
        new PeopleEdges(edges).all();
        new SeenEdges(edges).all();
        new GameEdges(edges).all();
        edges.end();
    }
}
