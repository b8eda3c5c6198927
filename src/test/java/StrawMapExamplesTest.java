import java.io.IOException;
import java.util.ArrayList;
import java.util.List;

/** The document's examples, read from the document itself. It is run from the project's root. */
public final class StrawMapExamplesTest {
    public static void main(String[] args) throws IOException, ReflectiveOperationException {
        List<List<String>> examples = new Document().examples();
        Snippets.same("the number of examples", examples.size(), 3);
        List<String> pieces = new ArrayList<>();
        for (List<String> calls : examples) {
            Snippets.same("the number of calls", calls.size(), 16);
            StringBuilder piece = new StringBuilder("StrawMap map = new StrawMap();\n");
            for (String call : calls) {
                piece.append("map.").append(call.replace(" = ", "; // ")).append('\n');
            }
            pieces.add(piece.toString());
        }
        Snippets.run(pieces);
        if (!Snippets.end("the document's examples")) {
            System.exit(1);
        }
    }
}
