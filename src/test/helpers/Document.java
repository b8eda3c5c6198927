import java.io.IOException;
import java.nio.file.Files;
import java.nio.file.Path;
import java.util.ArrayList;
import java.util.LinkedHashMap;
import java.util.List;
import java.util.Map;
import java.util.regex.Matcher;
import java.util.regex.Pattern;

/** What tests look up in ../shared/DOC.md: the face, the promises and the examples. */
final class Document {
    private final String text;

    Document() throws IOException {
        text = Files.readString(Path.of("../shared/DOC.md"));
    }

    /** What the first group of a pattern finds, in order. */
    static List<String> found(String pattern, String in) {
        List<String> all = new ArrayList<>();
        Matcher m = Pattern.compile(pattern).matcher(in);
        while (m.find()) {
            all.add(m.group(1));
        }
        return all;
    }

    private String face() {
        int from = text.indexOf("## The public face");
        return text.substring(from, text.indexOf("## Description"));
    }

    /** The methods of the face, in order, such as "write(int letter)". */
    List<String> methods() {
        return found("public int (\\w+\\([^)]*\\));", face());
    }

    /** The constants of the face, in order, such as "BAD = -1". */
    List<String> constants() {
        return found("([A-Z]+ = -?\\d+)", face());
    }

    /** The promises' signatures, in order, such as "StrawMap()" or "write(int letter)". */
    List<String> promised() {
        return found("## Promise \\d+: [^\n]*\n\n`(?:int )?(\\w+\\([^)]*\\))`", text);
    }

    /** For each method the text of its promise. */
    Map<String, String> promises() {
        Map<String, String> all = new LinkedHashMap<>();
        for (String part : text.split("\n## ")) {
            if (part.matches("(?s)Promise \\d+: \\w+\n.*")) {
                all.put(part.replaceAll("(?s)Promise \\d+: (\\w+)\n.*", "$1"), part.substring(part.indexOf('\n')));
            }
        }
        return all;
    }

    /** For each example its calls, such as "group(77) = 10". */
    List<List<String>> examples() {
        List<List<String>> all = new ArrayList<>();
        String examples = text.substring(text.indexOf("Examples: "), text.indexOf("## Promise 1:"));
        for (String one : found("(?m)^\\d\\. (.*)$", examples)) {
            all.add(found("(\\w+\\([^)]*\\) = -?\\d+)", one));
        }
        return all;
    }
}
