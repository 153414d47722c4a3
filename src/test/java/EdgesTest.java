/** For each sentence of the document a test of its edges; every word of the promises stands in one of them. */
public final class EdgesTest {
    public static void main(String[] args) {
        LawEdges.all();
        PeopleEdges.all();
        WouldBeEdges.all();
        DiaryEdges.all();
        WholeEdges.all();
        Edges.end();
    }
}
