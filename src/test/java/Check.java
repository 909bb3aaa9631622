import java.io.IOException;
import java.nio.file.Files;
import java.nio.file.Path;
import java.util.ArrayList;
import java.util.List;

/** Counts what the tests look at, and tells what is not as it is due. */
final class Check {
    interface Call {
        long answer();
    }

    private static final Path DOCUMENT = Path.of("../shared/DOC.md");

    private static int looked = 0;
    private static int wrong = 0;
    /** The sentence of the document that is looked at, if one has been quoted. */
    private static String sentence = "";
    private static final List<String> QUOTED = new ArrayList<>();

    private Check() {
    }

    /** What is looked at from here on is what the document says with these words. */
    static void says(String quote) {
        QUOTED.add(quote);
        sentence = "\"" + quote + "\": ";
    }

    static void due(String what, long got, long want) {
        looked++;
        if (got != want) {
            isWrong(what, Long.toString(got), Long.toString(want));
        }
    }

    /** Tells the first hundred. */
    private static void isWrong(String what, String got, String want) {
        wrong++;
        if (wrong <= 100) {
            System.out.println(sentence + what + " answered " + got + ", due is " + want);
        }
    }

    static void holds(String what, boolean got) {
        due(what, got ? 1 : 0, 1);
    }

    /** What a call answers, or the exception that it throws, as a text. */
    static String outcome(Call call) {
        try {
            return Long.toString(call.answer());
        } catch (RuntimeException e) {
            return e.getClass().getSimpleName();
        }
    }

    static void same(String what, String got, String want) {
        looked++;
        if (!got.equals(want)) {
            isWrong(what, got, want);
        }
    }

    static void noIndex(String what, Call call) {
        same(what, outcome(call), "IndexOutOfBoundsException");
    }

    static void noArgument(String what, Call call) {
        same(what, outcome(call), "IllegalArgumentException");
    }

    static void noState(String what, Call call) {
        same(what, outcome(call), "IllegalStateException");
    }

    static int wrongSoFar() {
        return wrong;
    }

    /** What was quoted and does not stand in the document is told, but it is no fault of the class. */
    static void tellQuotes() throws IOException {
        String document = Files.readString(DOCUMENT).replaceAll("\\s+", " ");
        int missing = 0;
        for (String quote : QUOTED) {
            if (!document.contains(quote)) {
                missing++;
                System.out.println("not in the document: " + quote);
            }
        }
        System.out.println(QUOTED.size() + " quotes of the document, " + missing + " of them not in it");
    }

    /**
     * The sentences under "Terms" and of the promises of which no part was quoted. The ranges of arguments, and what
     * is thrown, are RefusalTest's, which quotes nothing.
     */
    static List<String> notQuoted() throws IOException {
        List<String> left = new ArrayList<>();
        String all = Files.readString(DOCUMENT);
        int from = Math.max(0, all.indexOf("## Terms"));
        int to = all.contains("## Not promised") ? all.indexOf("## Not promised") : all.length();
        for (String line : all.substring(from, to).split("\n")) {
            if (line.startsWith("#") || line.startsWith("```") || line.startsWith("Ahead of the calls")
                    || line.startsWith("Throws ") || line.startsWith("- `") || line.isBlank()) {
                continue;
            }
            for (String each : line.trim().split("(?<=[.;]\\)?) +(?=[A-Z(0-9])")) {
                boolean found = false;
                for (String quote : QUOTED) {
                    found = found || each.contains(quote) || quote.contains(each);
                }
                if (!found) {
                    left.add(each);
                }
            }
        }
        return left;
    }

    static void end(String name) {
        System.out.println(name + ": " + looked + " looked at, " + wrong + " wrong");
        if (wrong > 0) {
            System.exit(1);
        }
    }
}
