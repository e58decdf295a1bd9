import java.io.IOException;
import java.nio.file.Path;

/** Every sentence of the document that names a boundary, asked on both sides of it. */
public final class EdgesTest {
    public static void main(String[] args) throws IOException {
        Edges edges = new Edges(Path.of(System.getProperty("soundbench.document", "../shared/DOC.md")));
        new TapeEdges(edges).ask();
        new HeaderEdges(edges).ask();
        new FrameEdges(edges).ask();
        new LayerOneEdges(edges).ask();
        new LayerTwoEdges(edges).ask();
        new SynthesisEdges(edges).ask();
        new AnswerEdges(edges).ask();
        edges.close();
    }
}
