/** Each sentence of the document that names an edge, with the number of its promise beside it. */
final class EdgeTest {
    private EdgeTest() {
    }

    public static void main(String[] args) {
        TextEdges.all();
        StateEdges.all();
        OrderEdges.all();
        WishEdges.all();
        for (int promise = 1; promise <= 28; promise++) {
            Check.due("an edge of promise " + promise, Check.hasEdge(promise), true);
        }
        Check.end();
    }
}
