import java.io.IOException;

/**
 * The document's sentences that name an edge (too small, too large, empty, full, round and round, not possible), one
 * after the other; what the methods throw is RefusalTest's. With the argument "left" it tells of which sentences no
 * part is quoted here.
 */
public final class EdgeTest {
    public static void main(String[] args) throws IOException {
        EdgesOfCells.all();
        EdgesOfRules.all();
        EdgesOfTicks.all();
        EdgesOfForecasts.all();
        Check.tellQuotes();
        if (args.length > 0 && args[0].equals("left")) {
            for (String each : Check.notQuoted()) {
                System.out.println("left: " + each);
            }
        }
        Check.end("EdgeTest");
    }
}
