import java.io.IOException;

/** Each sentence of the document with a test of its own: what it names as an edge, and just beyond. */
public final class EdgeTest {
    public static void main(String[] args) throws IOException {
        Check check = new Check("EdgeTest");
        Document document = Document.isThere() ? new Document() : null;
        Edge edge = new Edge(check, document);
        new EdgesOfText(edge).all();
        new EdgesOfWall(edge).all();
        new EdgesOfRuns(edge).all();
        new EdgesOfTrials(edge).all();
        if (document == null) {
            System.out.println("EdgeTest: no ../shared/DOC.md, so what has no test can't be told");
        } else {
            for (String words : document.unquoted()) {
                check.due("has no test: '" + words + "'", 0, 1);
            }
        }
        check.finish();
    }
}
