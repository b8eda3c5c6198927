import java.io.IOException;
import java.lang.management.ManagementFactory;
import java.lang.reflect.Constructor;
import java.lang.reflect.Field;
import java.lang.reflect.Method;
import java.lang.reflect.Modifier;
import java.nio.file.Files;
import java.nio.file.Path;
import java.util.ArrayList;
import java.util.Arrays;
import java.util.List;
import java.util.TreeSet;
import java.util.regex.Matcher;
import java.util.regex.Pattern;

/**
 * The face that the document gives, the rules of LANGUAGE.md that can be looked up in the source, and that no call
 * makes an object. It is run from the project's root.
 */
public final class StrawMapFormTest {
    private static int wrong = 0;

    public static void main(String[] args) throws IOException, IllegalAccessException {
        face(new Document());
        classesInside();
        source();
        callsMakeNothing();
        System.out.println(wrong == 0 ? "the form is as due" : wrong + " faults of form");
        if (wrong != 0) {
            System.exit(1);
        }
    }

    private static void fail(String what) {
        wrong++;
        System.out.println(what);
    }

    /** Each method with its types, such as "public int write(int)". */
    private static String typed(Method m) {
        StringBuilder types = new StringBuilder();
        for (Class<?> type : m.getParameterTypes()) {
            types.append(types.length() == 0 ? "" : ", ").append(type.getName());
        }
        return Modifier.toString(m.getModifiers()) + " " + m.getReturnType().getName() + " " + m.getName() + "("
            + types + ")";
    }

    private static void face(Document document) throws IllegalAccessException {
        TreeSet<String> due = new TreeSet<>();
        TreeSet<String> names = new TreeSet<>();
        for (String method : document.methods()) {
            due.add("public int " + method.replaceAll("int \\w+", "int"));
            names.add(method.substring(0, method.indexOf('(')));
        }
        if (due.size() != 42) {
            fail("the document's face has " + due.size() + " methods");
        }
        TreeSet<String> got = new TreeSet<>();
        for (Class<?> type : classes()) {
            for (Method m : type.getDeclaredMethods()) {
                boolean shown = type == StrawMap.class && !Modifier.isPrivate(m.getModifiers());
                if (shown && !m.isSynthetic()) {
                    got.add(typed(m));
                } else if (names.contains(m.getName())) {
                    fail("not a public method, with a public one's name: " + m);
                }
            }
        }
        if (!got.equals(due)) {
            fail("the methods are " + got);
        }
        List<String> promised = new ArrayList<>(document.methods());
        promised.add(0, "StrawMap()");
        if (!promised.equals(document.promised())) {
            fail("the document promises " + document.promised());
        }
        constants(document);
        Constructor<?>[] made = StrawMap.class.getDeclaredConstructors();
        if (made.length != 1 || made[0].getParameterCount() != 0 || !Modifier.isPublic(made[0].getModifiers())) {
            fail("not just one public constructor");
        }
        if (!Modifier.isFinal(StrawMap.class.getModifiers()) || !Modifier.isPublic(StrawMap.class.getModifiers())) {
            fail("the class is not public and final");
        }
    }

    private static void constants(Document document) throws IllegalAccessException {
        List<String> constants = new ArrayList<>();
        for (Field f : StrawMap.class.getDeclaredFields()) {
            if (!Modifier.isPrivate(f.getModifiers()) && !f.isSynthetic()) {
                String kind = Modifier.toString(f.getModifiers()) + " " + f.getType().getName();
                if (!kind.equals("public static final int")) {
                    fail("not a public constant of int: " + f);
                } else {
                    constants.add(f.getName() + " = " + f.getInt(null));
                }
            }
        }
        if (!constants.equals(document.constants())) {
            fail("the constants are " + constants);
        }
    }

    private static List<Class<?>> classes() {
        List<Class<?>> all = new ArrayList<>(Arrays.asList(StrawMap.class.getDeclaredClasses()));
        all.add(StrawMap.class);
        return all;
    }

    private static void classesInside() {
        List<Class<?>> all = classes();
        if (all.size() > 12) {
            fail("there are " + all.size() + " classes");
        }
        for (Class<?> inside : all) {
            if (inside != StrawMap.class && !Modifier.isStatic(inside.getModifiers())) {
                fail("not static: " + inside);
            }
            int fields = 0;
            for (Field f : inside.getDeclaredFields()) {
                boolean fixed = Modifier.isStatic(f.getModifiers()) && Modifier.isFinal(f.getModifiers());
                fields += fixed || f.isSynthetic() ? 0 : 1;
                if (Modifier.isStatic(f.getModifiers()) && !Modifier.isFinal(f.getModifiers())) {
                    fail("a static field that can change: " + f);
                }
            }
            if (fields > 20) {
                fail(fields + " fields in " + inside);
            }
            for (Method m : inside.getDeclaredMethods()) {
                if (m.getParameterCount() > 7) {
                    fail("too many parameters: " + m);
                }
            }
        }
    }

    private static void source() throws IOException {
        String code = Files.readString(Path.of("src/main/java/StrawMap.java"));
        for (int i = 0; i < code.length(); i++) {
            if (code.charAt(i) > 126) {
                fail("a sign beyond 126 at " + i);
            }
        }
        String bare = code.replaceAll("(?s)/\\*.*?\\*/", "").replaceAll("//[^\n]*", "")
            .replaceAll("\"[^\"\n]*\"", "\"\"").replaceAll("'.'", "' '");
        String[] refused = {"\\b(throw|throws|try|catch|synchronized|assert|import|package|native|volatile)\\b", "->",
            "::", "\\bObject\\b", "\\bException\\b", "\\bSystem\\.(?!arraycopy\\()", "Exact\\(", "@",
            "\\b(equals|hashCode|toString)\\b", "\\bnew \\w+\\[\\w*\\]\\[", "\\bstatic \\{", "\\bprotected\\b"};
        for (String r : refused) {
            Matcher m = Pattern.compile(r).matcher(bare);
            if (m.find()) {
                fail("the source has " + m.group());
            }
        }
        methodLengths(bare);
    }

    private static void methodLengths(String bare) {
        String[] lines = bare.split("\n");
        int start = -1;
        String indent = "";
        for (int i = 0; i < lines.length; i++) {
            Matcher m = Pattern.compile("^( +)[\\w\\[\\] ]+\\([^;]*\\) \\{$").matcher(lines[i]);
            boolean head = m.find() && !lines[i].matches(" *(if|for|while|switch|else|do|\\}).*");
            if (head) {
                start = i;
                indent = m.group(1);
            } else if (start >= 0 && lines[i].equals(indent + "}")) {
                if (i - start + 1 > 60) {
                    fail("a method of " + (i - start + 1) + " lines: " + lines[start].trim());
                }
                start = -1;
            }
        }
    }

    private static long made() {
        return ((com.sun.management.ThreadMXBean) ManagementFactory.getThreadMXBean())
            .getCurrentThreadAllocatedBytes();
    }

    /** All calls of a run share one room, so that a call that makes objects could fill it. */
    private static void callsMakeNothing() {
        everyCall(new StrawMap());
        made();
        long asked = made();
        long asking = made() - asked;
        StrawMap x = new StrawMap();
        long before = made();
        int sum = everyCall(x);
        long grown = made() - before - asking;
        if (grown != 0) {
            fail("calls made " + grown + " bytes of objects, sum " + sum);
        }
        before = made();
        x = new StrawMap();
        grown = made() - before - asking;
        // 512 new objects would still fit into 7.3 million fields and elements of 4 bytes.
        if (grown > 14000 * 4) {
            fail("a new object takes " + grown + " bytes, " + x.count(2));
        }
    }

    private static int everyCall(StrawMap x) {
        int sum = x.write('h') + x.write(';') + x.write('r') + x.write(';') + x.write('d') + x.write('9')
            + x.write(',') + x.write('9') + x.write(';') + x.fault() + x.node(10, 3) + x.weigh(10, 9)
            + x.reweigh(10, 9) + x.refill() + x.divert(0, 10, 11) + x.override(0, 3) + x.lift(0) + x.rule(2, 1, 1)
            + x.rack(1) + x.disk(9, 9, 9) + x.move(10, 9) + x.back(4) + x.group(9) + x.draw(1, 2, 3) + x.want(9)
            + x.chosen(1, 99, 0) + x.place(0, 0) + x.taken(0, 0) + x.groups(1) + x.spread() + x.share(1, 1)
            + x.old(3, 0, 0) + x.since(3, 2) + x.would(10, 3, 2) + x.least(10, 16) + x.even(0) + x.put(5, 5)
            + x.tick(8) + x.up(10, 0) + x.fail(11) + x.held(3, 2) + x.load(12, 0) + x.loses(1, 2)
            + x.storm(9, 30, 1) + x.seen(0, 10, 1) + x.weights(10, 2) + x.forget() + x.lay() + x.wipe();
        for (int what = 0; what <= 16; what++) {
            sum += x.count(what);
        }
        return sum;
    }
}
