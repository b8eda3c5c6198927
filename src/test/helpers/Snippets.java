import java.io.IOException;
import java.nio.file.Files;
import java.nio.file.Path;
import java.util.List;
import java.util.regex.Matcher;
import java.util.regex.Pattern;
import javax.tools.JavaCompiler;
import javax.tools.ToolProvider;

/**
 * Pieces of code that a page shows. They are compiled and run as they stand there, and the answer that the page gives
 * behind a call, as in "map.group(77); // 10: the group of key 77", is compared with the one that comes.
 */
final class Snippets {
    private static final Pattern ANSWERED =
        Pattern.compile("( *(?:int \\w+ = )?)(map\\.\\w+\\(.*\\)); +// (-?\\d+|BAD|NO|FULL|NONE)(?:: .*)?");
    private static final String CLASS = "SnippetsCode";
    private static int checked = 0;
    private static int wrong = 0;

    private Snippets() {
    }

    /** The code that is made from the pieces calls this. */
    public static int due(String line, int got, int due) {
        checked++;
        if (got != due) {
            wrong("answered " + got + ": " + line);
        }
        return got;
    }

    static void wrong(String what) {
        wrong++;
        System.out.println(what);
    }

    static void same(String what, Object got, Object due) {
        checked++;
        if (!got.equals(due)) {
            wrong(what + " is " + got + ", due is " + due);
        }
    }

    /** Returns whether nothing was wrong. */
    static boolean end(String name) {
        System.out.println(name + ": " + checked + " answers checked, " + wrong + " wrong");
        return wrong == 0 && checked > 0;
    }

    static void run(List<String> pieces) throws IOException, ReflectiveOperationException {
        StringBuilder code = new StringBuilder("final class " + CLASS + " {\n");
        StringBuilder all = new StringBuilder("    static void all() {\n");
        for (int i = 0; i < pieces.size(); i++) {
            code.append("    static void piece").append(i).append("() {\n").append(checking(pieces.get(i)));
            code.append("    }\n");
            all.append("        piece").append(i).append("();\n");
        }
        compileAndRun(code.append(all).append("    }\n}\n").toString());
    }

    private static String checking(String piece) {
        StringBuilder code = new StringBuilder();
        for (String line : piece.split("\n")) {
            Matcher m = ANSWERED.matcher(line);
            if (m.matches()) {
                String due = m.group(3).matches("[A-Z]+") ? "StrawMap." + m.group(3) : m.group(3);
                String quoted = line.trim().replace("\\", "\\\\").replace("\"", "\\\"");
                code.append(m.group(1)).append("Snippets.due(\"").append(quoted).append("\", ").append(m.group(2));
                code.append(", ").append(due).append(");\n");
            } else {
                if (line.contains("//") || line.matches(" *(int \\w+ = )?map\\..*")) {
                    wrong("no answer is given by: " + line);
                }
                code.append(line).append('\n');
            }
        }
        return code.toString();
    }

    private static void compileAndRun(String code) throws IOException, ReflectiveOperationException {
        JavaCompiler compiler = ToolProvider.getSystemJavaCompiler();
        if (compiler == null) {
            wrong("this Java machine has no compiler");
            return;
        }
        Path out = Path.of(System.getProperty("java.class.path"));
        Path source = out.resolve(CLASS + ".java");
        Files.writeString(source, code);
        int ended = compiler.run(null, null, null, "-Xlint:all", "-cp", out.toString(), "-d", out.toString(),
            source.toString());
        if (ended != 0) {
            wrong("the code does not compile:\n" + code);
            return;
        }
        Class.forName(CLASS).getDeclaredMethod("all").invoke(null);
    }
}
