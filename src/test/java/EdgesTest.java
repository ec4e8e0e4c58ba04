/**
 * The document's edges, sentence by sentence, and whether each sentence of its Terms, each exception of
 * each promise and each order of two of them has a run of its own.
 */
public final class EdgesTest {
    private EdgesTest() {
    }

    public static void main(String[] args) {
        Edges edges = new Edges();
        new StrokeEdges(edges).run();
        new TubeEdges(edges).run();
        new PlantEdges(edges).run();
        new CircuitEdges(edges).run();
        new StreetEdges(edges).run();
        new OrderEdges(edges).run();
        edges.end();
    }
}
