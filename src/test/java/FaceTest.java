import java.io.IOException;
import java.lang.reflect.Array;
import java.lang.reflect.Constructor;
import java.lang.reflect.Field;
import java.lang.reflect.Method;
import java.lang.reflect.Modifier;
import java.nio.file.Files;
import java.nio.file.Path;
import java.util.ArrayDeque;
import java.util.Collections;
import java.util.Deque;
import java.util.HashSet;
import java.util.IdentityHashMap;
import java.util.Set;
import java.util.TreeSet;
import java.util.regex.Matcher;
import java.util.regex.Pattern;

/** The public face as the document has it, what can be seen of LANGUAGE.md, and the room that an object takes. */
public final class FaceTest {
    private static final Path DOCUMENT = Path.of("../shared/DOC.md");
    private static final Path SOURCE = Path.of("src/main/java/LatticeTunnel.java");
    /** 7.3 million over 512 calls: then even a run in which every call makes an object has room. */
    private static final int MOST_NUMBERS = 14200;

    public static void main(String[] args) throws IOException, IllegalAccessException {
        face();
        nestedClasses();
        source();
        room();
        Check.end("FaceTest");
    }

    // ---- the face

    private static void face() throws IOException {
        Set<String> due = new TreeSet<>();
        for (String line : Files.readAllLines(DOCUMENT)) {
            if (line.startsWith("    public ")) {
                due.add(shortened(line));
            }
        }
        Set<String> got = new TreeSet<>();
        for (Field f : LatticeTunnel.class.getDeclaredFields()) {
            if (!Modifier.isPrivate(f.getModifiers())) {
                got.add("public static final int " + f.getName() + " = " + LatticeTunnel.NONE);
            }
        }
        for (Constructor<?> c : LatticeTunnel.class.getDeclaredConstructors()) {
            got.add("public LatticeTunnel(" + types(c.getParameterTypes()) + ")");
        }
        for (Method m : LatticeTunnel.class.getDeclaredMethods()) {
            if (!Modifier.isPrivate(m.getModifiers())) {
                String thrown = types(m.getExceptionTypes());
                got.add("public " + m.getReturnType() + " " + m.getName() + "(" + types(m.getParameterTypes()) + ")"
                        + (thrown.isEmpty() ? "" : " throws " + thrown));
            }
        }
        Check.holds("the document's face was found", due.size() == 43);
        Check.same("face", got.toString(), due.toString());
        Check.holds("final", Modifier.isFinal(LatticeTunnel.class.getModifiers()));
    }

    /** Without the names of the parameters. */
    private static String shortened(String line) {
        return line.trim().replace(";", "").replaceAll("\\b(int|boolean) \\w+(?=[,)])", "$1");
    }

    private static String types(Class<?>[] all) {
        StringBuilder text = new StringBuilder();
        for (Class<?> each : all) {
            text.append(text.length() == 0 ? "" : ", ").append(each.getSimpleName());
        }
        return text.toString();
    }

    // ---- LANGUAGE.md

    private static void nestedClasses() {
        Set<String> publicNames = new HashSet<>();
        for (Method m : LatticeTunnel.class.getDeclaredMethods()) {
            if (Modifier.isPublic(m.getModifiers())) {
                publicNames.add(m.getName());
            }
        }
        Class<?>[] nested = LatticeTunnel.class.getDeclaredClasses();
        Check.holds("rule 11: some twelve classes", nested.length < 12);
        lookInside(LatticeTunnel.class, publicNames);
        for (Class<?> each : nested) {
            Check.holds("rule 1: " + each.getName(), Modifier.isStatic(each.getModifiers())
                    && !Modifier.isPublic(each.getModifiers()) && !Modifier.isProtected(each.getModifiers()));
            lookInside(each, publicNames);
        }
    }

    private static void lookInside(Class<?> type, Set<String> publicNames) {
        int fields = 0;
        for (Field f : type.getDeclaredFields()) {
            fields += Modifier.isStatic(f.getModifiers()) ? 0 : 1;
            if (Modifier.isStatic(f.getModifiers())) {
                Check.holds("rule 5: " + f, Modifier.isFinal(f.getModifiers()));
            }
        }
        Check.holds("rule 11: fields of " + type, fields <= 20);
        for (Method m : type.getDeclaredMethods()) {
            Check.holds("rule 11: parameters of " + m, m.getParameterCount() <= 7);
            Check.holds("rule 1: the name of " + m,
                    Modifier.isPublic(m.getModifiers()) || !publicNames.contains(m.getName()));
        }
    }

    private static void source() throws IOException {
        String text = Files.readString(SOURCE);
        for (char c : text.toCharArray()) {
            if (c > 126) {
                Check.holds("a sign above 126", false);
            }
        }
        String code = text.replaceAll("(?s)/\\*.*?\\*/", "").replaceAll("//[^\n]*", "")
                .replaceAll("\"[^\"\n]*\"", "\"\"").replaceAll("'[^'\n]'", "' '");
        String[] forbidden = {"->", "::", "\\btry\\b", "\\bcatch\\b", "\\bfinally\\b", "\\bsynchronized\\b",
            "\\bassert\\b", "\\bwhile\\b", "\\bnull\\b", "\\bvar\\b", "\\bpackage\\b", "\\bdouble\\b", "\\bfloat\\b",
            "\\w+Exact\\b", "System\\.(?!arraycopy)", "Arrays\\.(?!fill|copyOf)", "Integer\\.(?!bitCount)",
            "Math\\.(?!abs)", "import (?!java\\.util\\.Arrays;)", "\\]\\["};
        for (String each : forbidden) {
            Check.holds("no " + each, !Pattern.compile(each).matcher(code).find());
        }
        Matcher thrown = Pattern.compile("throw (.*)").matcher(code);
        while (thrown.find()) {
            Check.holds("rule 6: " + thrown.group(), thrown.group(1).matches(
                    "new (IndexOutOfBoundsException|IllegalArgumentException|IllegalStateException)\\(\"\"\\);"));
        }
        methodLengths(text);
    }

    /** A method begins where a line of four or eight spaces ends with a brace, and ends with that brace's like. */
    private static void methodLengths(String text) {
        String[] lines = text.split("\n");
        for (int i = 0; i < lines.length; i++) {
            // A line of throws belongs to the line before it, which is one of the face.
            boolean goesOn = lines[i].trim().startsWith("throws ");
            String indent = goesOn ? "    " : lines[i].replaceAll("\\S.*", "");
            boolean method = lines[i].endsWith("{") && !lines[i].contains("class ")
                    && (indent.length() == 4 || indent.length() == 8);
            for (int j = i + 1; method && j < lines.length; j++) {
                if (lines[j].equals(indent + "}")) {
                    Check.holds("rule 11: the length of the method at line " + (i + 1), j - i < 60);
                    break;
                }
            }
        }
    }

    // ---- room

    private static void room() throws IllegalAccessException {
        LatticeTunnel x = new LatticeTunnel();
        int[] first = reach(x);
        System.out.println("an object takes " + first[0] + " objects and arrays, " + first[1] + " fields and elements");
        Check.holds("room of a new object", first[1] <= MOST_NUMBERS && first[0] <= 1100);
        int calls = work(x);
        Check.holds("calls", calls <= 512);
        Check.due("objects after " + calls + " calls", reach(x)[0], first[0]);
        Check.due("elements after " + calls + " calls", reach(x)[1], first[1]);
        makesNothing();
    }

    /** Calls of every kind that makes or keeps something. */
    private static int work(LatticeTunnel x) {
        int calls = 0;
        x.build(32, 16);
        x.set(0, 1);
        x.block(0, 8, 6, 10, 9);
        x.fill(11, 0, 0, 7, 15);
        x.inlet(0, 15, 0, 5, 2);
        calls += 5;
        for (int i = 0; i < 20; i++) {
            for (char c : "*03>25".toCharArray()) {
                x.type(c);
            }
            x.fault(0);
            x.rules();
            x.run(3);
            x.save(i % 2);
            x.restore(i % 2);
            x.ahead(0, 1, 5);
            x.cycle(10, 0);
            x.settles(0, 3, 2, 5);
            x.bestShift(0, 4);
            x.bestStart(0, 0, 4);
            x.shift(0, 0, 0);
            x.undo();
            x.zero(0);
            calls += 19;
        }
        return calls;
    }

    private static void makesNothing() {
        com.sun.management.ThreadMXBean bean =
                (com.sun.management.ThreadMXBean) java.lang.management.ManagementFactory.getThreadMXBean();
        LatticeTunnel x = new LatticeTunnel();
        work(x);
        x = new LatticeTunnel();
        long before = bean.getCurrentThreadAllocatedBytes();
        work(x);
        long made = bean.getCurrentThreadAllocatedBytes() - before;
        // The test's own arrays of characters are some 40 bytes in each of 20 rounds.
        Check.holds("calls make nothing new: " + made + " bytes", made < 8000);
    }

    /** How many objects and arrays can be reached, and how many fields and elements they have. */
    private static int[] reach(Object from) throws IllegalAccessException {
        Set<Object> met = Collections.newSetFromMap(new IdentityHashMap<>());
        Deque<Object> open = new ArrayDeque<>();
        met.add(from);
        open.add(from);
        int numbers = 0;
        while (!open.isEmpty()) {
            Object each = open.remove();
            if (each.getClass().isArray()) {
                numbers += Array.getLength(each);
                if (each instanceof Object[] all) {
                    for (Object one : all) {
                        if (one != null && met.add(one)) {
                            open.add(one);
                        }
                    }
                }
                continue;
            }
            for (Field f : each.getClass().getDeclaredFields()) {
                if (!Modifier.isStatic(f.getModifiers())) {
                    numbers++;
                    f.setAccessible(true);
                    Object one = f.get(each);
                    if (!f.getType().isPrimitive() && one != null && met.add(one)) {
                        open.add(one);
                    }
                }
            }
        }
        return new int[] {met.size(), numbers};
    }
}
