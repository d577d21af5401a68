import java.io.IOException;
import java.nio.file.Path;

/** Every sentence of the document that says something of the class: its first argument is the document. */
public final class EdgesTest {
    public static void main(String[] args) throws IOException {
        Due due = new Due();
        Document document = new Document(Path.of(args[0]));
        Edges[] edges = {new StreamEdges(due, document), new ReservoirEdges(due, document),
            new PriorityEdges(due, document), new DistinctEdges(due, document), new WindowEdges(due, document),
            new RefusedEdges(due, document)};
        for (Edges some : edges) {
            some.run();
        }
        due.about("the document");
        due.same("sentences without a test", String.join("; ", document.sentencesWithoutTest()), "");
        due.end("EdgesTest");
    }
}
