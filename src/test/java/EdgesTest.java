import java.io.IOException;
import java.nio.file.Path;

/** Every sentence of the document that names a boundary case, with a test of its own. */
public final class EdgesTest {
  public static void main(String[] args) throws IOException {
    Edges edges = new Edges(new Document(Path.of(args.length > 0 ? args[0] : "../shared/DOC.md")));
    new TextEdges(edges).all();
    new WebEdges(edges).all();
    new NowEdges(edges).all();
    new BearEdges(edges).all();
    new LoadEdges(edges).all();
    new LiarEdges(edges).all();
    new TurnEdges(edges).all();
    new ClerkEdges(edges).all();
    new ActEdges(edges).all();
    new RefusalEdges(edges).all();
    edges.finish();
  }
}
