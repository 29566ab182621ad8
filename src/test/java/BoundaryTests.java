import java.io.IOException;
import java.util.Map;
import java.util.Set;

/**
 * Tests each sentence of the document that names a boundary case, under the name of its section and its words, and that
 * the document has no other sentences. The tests are under src/test/bounds.
 */
public final class BoundaryTests {

    public static void main(String[] args) throws IOException {
        Bounds b = new Bounds();
        BoundsOfTerms.addTo(b);
        BoundsOfTriples.addTo(b);
        BoundsOfLookingUp.addTo(b);
        BoundsOfQuery.addTo(b);
        BoundsOfAnswers.addTo(b);
        Map<String, Set<String>> document = Document.sentences();
        // FaceTests looks at the one; the other names nothing that could be asked.
        document.remove("The public face");
        document.remove("Not promised");
        if (!b.end(document)) {
            System.exit(1);
        }
    }
}
