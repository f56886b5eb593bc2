/**
 * The document's boundary cases, sentence by sentence: the last value that is allowed and the first that is not, what
 * is EMPTY or full, what begins again; of each call that is refused, that it changes nothing but status().
 */
public final class BoundaryTest {
    private BoundaryTest() {
    }

    public static void main(String[] args) {
        RowEdges.all();
        TextEdges.all();
        ActEdges.all();
        SetEdges.all();
        ForetoldEdges.all();
        AskedEdges.all();
        Edges.end();
    }
}
