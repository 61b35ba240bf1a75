/** The boundary cases of every sentence of the document's terms and promises. */
public final class EdgesTest {
    private EdgesTest() { }

    public static void main(String[] args) {
        Edges edges = new Edges();
        TermsEdges.tell(edges);
        TellingEdges.tell(edges);
        RunEdges.tell(edges);
        edges.end();
    }
}
