import java.io.IOException;
import java.nio.file.Files;
import java.nio.file.Path;
import java.util.ArrayList;
import java.util.List;
import java.util.Map;

/**
 * What README.md says is so: its code compiles and answers as it says there, its codes have their numbers, its table
 * has all methods with their errors, and it names all tests. It is run from the project's root.
 */
public final class StrawMapReadmeTest {
    public static void main(String[] args) throws IOException, ReflectiveOperationException {
        String readme = Files.readString(Path.of("README.md"));
        code(readme);
        codes(readme, new Document().constants());
        methods(readme, new Document());
        tests(readme);
        if (!Snippets.end("README.md")) {
            System.exit(1);
        }
    }

    private static void code(String readme) throws IOException, ReflectiveOperationException {
        List<String> pieces = Document.found("(?s)```java\n(.*?)```", readme);
        if (pieces.size() < 5) {
            Snippets.wrong("README.md has only " + pieces.size() + " pieces of code");
        }
        Snippets.run(pieces);
    }

    private static void codes(String readme, List<String> due) {
        List<String> said = new ArrayList<>();
        for (String row : Document.found("(?m)^\\| (`[A-Z]+` \\| -\\d) \\|", readme)) {
            said.add(row.replaceAll("`", "").replace(" |", " ="));
        }
        Snippets.same("the row of codes", said, due);
    }

    /** The rows of the table, such as "| `write(letter)` | what it does | BAD, FULL |". */
    private static void methods(String readme, Document document) {
        List<String> due = new ArrayList<>();
        Map<String, String> promises = document.promises();
        for (String method : document.methods()) {
            String promise = promises.getOrDefault(method.replaceAll("\\(.*", ""), "");
            due.add(method.replace("int ", "") + ": " + errorsOf(promise));
        }
        List<String> said = new ArrayList<>();
        for (String row : Document.found("(?m)^\\| (`\\w+\\(.*) \\|$", readme)) {
            said.add(row.replaceAll("^`(.*?)` \\|.*\\|(.*)$", "$1:$2").replaceAll(" +$", ""));
        }
        for (int i = 0; i < Math.max(due.size(), said.size()); i++) {
            Snippets.same("a row of the methods", i < said.size() ? said.get(i) : "none",
                i < due.size() ? due.get(i) : "none");
        }
    }

    /** The codes that a promise says it returns, in the order in which they are checked; NONE comes last. */
    private static String errorsOf(String promise) {
        String returned = promise.replaceAll("(?s)^.*\nReturns ", "").replaceAll("\\s+", " ");
        int errors = returned.indexOf("errors: ");
        List<String> codes = new ArrayList<>();
        if (errors >= 0) {
            codes.addAll(Document.found("\\b(BAD|NO|FULL)\\b", returned.substring(errors)));
        }
        if (Document.found("\\b(NONE)\\b", promise).size() > 0) {
            codes.add("NONE");
        }
        return codes.isEmpty() ? "-" : String.join(", ", codes);
    }

    private static void tests(String readme) throws IOException {
        List<String> due = new ArrayList<>();
        try (var files = Files.list(Path.of("src/test/java"))) {
            files.forEach(file -> due.add(file.getFileName().toString().replace(".java", "")));
        }
        due.sort(null);
        List<String> said = Document.found("(?m)^- `(\\w+Test)`:", readme);
        said.sort(null);
        Snippets.same("the list of tests", said, due);
    }
}
