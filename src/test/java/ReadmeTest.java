import java.io.IOException;
import java.lang.reflect.Method;
import java.lang.reflect.Modifier;
import java.nio.file.Files;
import java.nio.file.Path;
import java.util.ArrayList;
import java.util.List;
import java.util.stream.Stream;

/** README.md: the example's calls answer what stands behind them, and it names every method and every test. */
public final class ReadmeTest {
    private static final Path README = Path.of("README.md");
    private static final Path TESTS = Path.of("src/test/java");
    private static final String OBJECT = "tunnel.";

    private static List<String> example;
    private static int line;

    public static void main(String[] args) throws IOException {
        String text = Files.readString(README);
        example = callsOf(text);
        answersOfTheExample();
        namesEveryMethod(text);
        namesEveryTest(text);
        Check.end("ReadmeTest");
    }

    private static List<String> callsOf(String text) {
        List<String> calls = new ArrayList<>();
        for (String each : text.split("\n")) {
            if (each.startsWith(OBJECT)) {
                calls.add(each.substring(OBJECT.length()));
            }
        }
        return calls;
    }

    private static void answersOfTheExample() {
        LatticeTunnel x = new LatticeTunnel();
        next("block(0, 6, 2, 7, 3)", x.block(0, 6, 2, 7, 3));
        next("inlet(0, 7, 0, 7, 1)", x.inlet(0, 7, 0, 7, 1));
        next("run(40)", x.run(40));
        next("cell(6, 2)", x.cell(6, 2));
        next("body(0, 1)", x.body(0, 1));
        next("recent(0, 1, 16)", x.recent(0, 1, 16));
        next("cycle(60, 0)", x.cycle(60, 0));
        next("cycle(60, 1)", x.cycle(60, 1));
        next("bestShift(0, 20)", x.bestShift(0, 20));
        next("bestStart(0, 0, 20)", x.bestStart(0, 0, 20));
        next("undo()", x.undo());
        next("count(2)", x.count(2));
        next("type('0')", x.type('0'));
        next("fault(0)", x.fault(0));
        next("wipe()", x.wipe());
        Check.due("calls of the example", example.size(), line);
    }

    /** The next line of the example has this call, and its answer before the first colon of what stands behind it. */
    private static void next(String call, int answer) {
        String told = line < example.size() ? example.get(line) : "";
        Check.same("the call", told.replaceAll(";.*", ""), call);
        Check.same("the answer of " + call, told.replaceAll(".*?// (-?\\d+): .*", "$1"), Integer.toString(answer));
        line++;
    }

    private static void namesEveryMethod(String text) {
        for (Method method : LatticeTunnel.class.getDeclaredMethods()) {
            if (Modifier.isPublic(method.getModifiers())) {
                Check.holds("README.md names " + method.getName(), text.contains("`" + method.getName() + "`"));
            }
        }
    }

    private static void namesEveryTest(String text) throws IOException {
        try (Stream<Path> files = Files.list(TESTS)) {
            for (Path file : files.toList()) {
                String name = file.getFileName().toString();
                if (name.endsWith("Test.java")) {
                    Check.holds("README.md names " + name, text.contains("`src/test/java/" + name + "`"));
                }
            }
        }
    }
}
