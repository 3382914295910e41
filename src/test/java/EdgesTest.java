import java.io.IOException;
import java.nio.file.Path;

/** A test for each sentence of the document that names a boundary case, on both sides of it. */
public final class EdgesTest {
    public static void main(String[] args) throws IOException {
        Path document = Path.of(System.getProperty("shared", "../shared"), "DOC.md");
        Sentences sentences = new Sentences(new Document(document), new Checks("EdgesTest"));
        new TextEdges(sentences).all();
        new RuleEdges(sentences).all();
        new PeopleEdges(sentences).all();
        new TaxEdges(sentences).all();
        new CoupleEdges(sentences).all();
        new ExplorerEdges(sentences).all();
        new ChangeEdges(sentences).all();
        sentences.end();
    }
}
