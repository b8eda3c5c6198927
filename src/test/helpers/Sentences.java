import java.io.IOException;
import java.nio.file.Files;
import java.nio.file.Path;
import java.util.LinkedHashMap;
import java.util.Map;

/**
 * The document, sentence by sentence. Each test quotes the sentence that it looks after; a quote that is not in the
 * document is wrong, and so is a word of the document that no test quotes.
 */
class Sentences {
    private static final String[] PARAGRAPHS = {"THE TREE has", "TEXTS.", "STRAWS.", "PLACEMENT.", "EPOCHS.", "DATA.",
        "ERRORS.", "Examples:"};
    private static final int MOST_TOLD = 100;
    private static final Map<String, String> SECTIONS = new LinkedHashMap<>();
    private static final Map<String, boolean[]> QUOTED = new LinkedHashMap<>();
    private static String section = "";
    private static String sentence = "";
    private static int tests = 0;
    private static int answers = 0;
    private static int wrong = 0;

    protected Sentences() {
    }

    static void read(Path document) throws IOException {
        for (String part : Files.readString(document).split("\n## ")) {
            String name = part.substring(0, part.indexOf('\n')).replaceAll(":.*", "");
            String body = part.substring(part.indexOf('\n'));
            if (name.equals("What it is")) {
                keep(name, body.substring(body.indexOf("An object is used")));
            } else if (name.equals("Description")) {
                readDescription(body);
            } else if (name.startsWith("Promise ")) {
                keep(name, body.replaceAll("\n`[^\n]*`\n", "\n").replaceAll("\n----[^\n]*\n", "\n"));
            }
        }
    }

    private static void readDescription(String body) {
        for (int i = 0; i + 1 < PARAGRAPHS.length; i++) {
            int from = body.indexOf("\n" + PARAGRAPHS[i]);
            int to = body.indexOf("\n" + PARAGRAPHS[i + 1]);
            keep(PARAGRAPHS[i].replaceAll("[.]| has", ""), body.substring(from, to));
        }
    }

    private static void keep(String name, String text) {
        String plain = plain(text);
        SECTIONS.put(name, plain);
        QUOTED.put(name, new boolean[plain.length()]);
    }

    private static String plain(String text) {
        return text.replaceAll("\n- ", "\n").replaceAll("\\s+", " ").trim();
    }

    static void in(String name) {
        section = name;
        sentence = "";
        if (!SECTIONS.containsKey(name)) {
            wrong("the document has no such section");
        }
    }

    /** A test of its own for a sentence of the document. */
    static void says(String quote, Runnable test) {
        sentence = quote;
        tests++;
        quote(quote);
        int before = answers;
        test.run();
        if (answers == before) {
            wrong("nothing is looked at");
        }
    }

    private static void quote(String quote) {
        String text = SECTIONS.getOrDefault(section, "");
        int at = text.indexOf(quote);
        if (at < 0) {
            wrong("the document does not say this");
        }
        while (at >= 0) {
            for (int i = at; i < at + quote.length(); i++) {
                QUOTED.get(section)[i] = true;
            }
            at = text.indexOf(quote, at + 1);
        }
    }

    static void is(int got, int due) {
        answers++;
        if (got != due) {
            wrong("answer " + got + ", due is " + due);
        }
    }

    static void holds(boolean what) {
        is(what ? 1 : 0, 1);
    }

    /** All answers are the same one. */
    static void all(int due, int... got) {
        for (int one : got) {
            is(one, due);
        }
    }

    static int[] row(int... answers) {
        return answers;
    }

    static void are(int[] got, int... due) {
        is(got.length, due.length);
        for (int i = 0; i < Math.min(got.length, due.length); i++) {
            answers++;
            if (got[i] != due[i]) {
                wrong("answer [" + i + "] is " + got[i] + ", due is " + due[i]);
            }
        }
    }

    /** A broken program may give hundreds of thousands of wrong answers, of which the first ones are enough. */
    private static void wrong(String what) {
        wrong++;
        if (wrong <= MOST_TOLD) {
            System.out.println(section + ", \"" + sentence + "\"" + where() + ": " + what);
        }
    }

    /** The line of the test that asked. */
    private static String where() {
        for (StackTraceElement e : new Throwable().getStackTrace()) {
            boolean asked = e.getClassName().matches("(Map|Placement|Data)Sentences.*");
            if (asked) {
                return " (" + e.getFileName() + ", line " + e.getLineNumber() + ")";
            }
        }
        return "";
    }

    /** Tells what is wrong, the words that no test quotes included; returns whether nothing is. */
    static boolean end() {
        for (Map.Entry<String, String> e : SECTIONS.entrySet()) {
            section = e.getKey();
            sentence = "";
            lookForUnquoted(e.getValue(), QUOTED.get(section));
        }
        System.out.println(tests + " sentences tested, " + answers + " answers, " + wrong + " wrong");
        return wrong == 0;
    }

    private static void lookForUnquoted(String text, boolean[] quoted) {
        int from = 0;
        while (from < text.length()) {
            int to = from;
            while (to < text.length() && !quoted[to]) {
                to++;
            }
            String left = text.substring(from, to);
            if (left.matches(".*[A-Za-z0-9].*")) {
                wrong("no test quotes: " + left);
            }
            from = Math.max(to, from + 1);
        }
    }
}
