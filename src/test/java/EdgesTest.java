/** Every sentence of the document that names a boundary case, promise by promise. */
public final class EdgesTest {
    public static void main(String[] args) {
        Edges edges = new Edges();
        new EdgesOfTerms(edges).run();
        new EdgesOfChanges(edges).run();
        new EdgesOfTelling(edges).run();
        new EdgesOfWays(edges).run();
        new EdgesOfSupposing(edges).run();
        edges.end();
    }
}
