import java.io.IOException;

/** Each sentence of the document by a test of its own, above all where it names a boundary. */
public final class EdgesTest {
    public static void main(String[] args) throws IOException {
        Document document = new Document();
        Edges edges = new Edges(document);
        new TableEdges(edges).run();
        new FindingEdges(edges).run();
        new CuttingEdges(edges).run();
        new TextEdges(edges).run();
        new UndoEdges(edges).run();
        new DigestEdges(edges).run();
        for (String sentence : document.unquoted()) {
            Check.fail("no test quotes \"" + sentence + "\"");
        }
        Check.end();
    }
}
