import java.io.IOException;

/**
 * Each sentence of the document, with the boundary cases that it names: too small, too large, empty, full, refused.
 * A sentence of the document that no test holds is a fault too.
 */
public final class EdgesTest {
    public static void main(String[] args) throws IOException {
        Document document = Document.read();
        FrameEdges.hold(document);
        LevelEdges.hold(document);
        CommandEdges.hold(document);
        SettingEdges.hold(document);
        QueryEdges.hold(document);
        SpecialEdges.hold(document);
        PromiseEdges.hold(document);
        CommissionEdges.hold(document);
        document.allAreHeld();
        Check.finish();
    }
}
