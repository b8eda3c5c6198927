import java.io.IOException;
import java.nio.file.Path;

/**
 * A test of its own for each sentence of the document, above all for those that name a boundary case. It is run from
 * the project's root.
 */
public final class StrawMapSentencesTest {
    public static void main(String[] args) throws IOException {
        Sentences.read(Path.of("../shared/DOC.md"));
        MapSentences.test();
        PlacementSentences.test();
        DataSentences.test();
        if (!Sentences.end()) {
            System.exit(1);
        }
    }
}
