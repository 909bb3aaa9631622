import java.util.ArrayList;
import java.util.List;
import java.util.function.Supplier;

/**
 * Each argument of each method at the ends of its range and beyond them, alone and together with others, and with a
 * tunnel in which the call is not possible: "they are checked in this order, whichever of them a method names", and
 * "A call that throws an exception changes nothing", for everything that can be found out about the tunnel.
 */
public final class RefusalTest {
    private static final String INDEX = "IndexOutOfBoundsException";
    private static final String ARGUMENT = "IllegalArgumentException";
    private static final String STATE = "IllegalStateException";

    private static final int WIDTH = 7;
    private static final int HEIGHT = 5;
    private static final int GUSTS = 3;

    interface Asked {
        long with(LatticeTunnel x, int[] arguments);
    }

    private static final class Method {
        final String name;
        final Asked asked;
        /** Of each argument: whether it is an index, the least, the greatest, and one that is good on the stage. */
        final List<int[]> arguments = new ArrayList<>();

        Method(String name, Asked asked) {
            this.name = name;
            this.asked = asked;
        }

        Method index(int size, int good) {
            arguments.add(new int[] {1, 0, size - 1, good});
            return this;
        }

        Method argument(int least, int most, int good) {
            arguments.add(new int[] {0, least, most, good});
            return this;
        }

        int[] good() {
            int[] good = new int[arguments.size()];
            for (int i = 0; i < good.length; i++) {
                good[i] = arguments.get(i)[3];
            }
            return good;
        }

        String kind(int argument) {
            return arguments.get(argument)[0] == 1 ? INDEX : ARGUMENT;
        }

        String told(int[] values) {
            StringBuilder text = new StringBuilder(name).append('(');
            for (int i = 0; i < values.length; i++) {
                text.append(i == 0 ? "" : ", ").append(values[i]);
            }
            return text.append(')').toString();
        }
    }

    public static void main(String[] args) {
        for (Method method : methods()) {
            goodOne(method);
            ends(method);
            beyond(method);
            together(method, "", RefusalTest::stage);
        }
        disorder();
        impossible();
        Check.end("RefusalTest");
    }

    // ---- the stage

    /** Four different states in the history, one more in each slot, three gusts, a pad that could become the book. */
    private static LatticeTunnel stage() {
        LatticeTunnel x = Tunnels.withBook(WIDTH, HEIGHT, "*03>25|14;*0134>1245");
        x.block(2, 5, 1, 5, 2);
        x.solid(0, 3, 2);
        x.fill(29, 1, 1, 2, 3);
        x.save(0);
        x.fan(4, 0, 4, 0, 3, 2);
        x.inlet(0, 1, 0, 5, 3);
        x.drain(6, 0, 4, 1, 2, 1);
        x.run(9);
        x.save(1);
        x.run(3);
        x.empty(0, 0, 6, 4);
        x.put(0, 4, 0);
        x.set(2, 1);
        x.put(2, 4, 4);
        Tunnels.type(x, "*024>135;03>14|25");
        return x;
    }

    /** A ring without gusts, in which ticks can be taken back. */
    private static LatticeTunnel ringStage() {
        LatticeTunnel x = stage();
        for (int i = 0; i < GUSTS; i++) {
            x.drop(0);
        }
        x.set(0, 1);
        x.wipe();
        x.rules();
        x.run(40);
        x.put(1, 1, 0);
        return x;
    }

    private static LatticeTunnel stageOf(Method method) {
        return method.name.equals("back") ? ringStage() : stage();
    }

    private static Method cells(Method method) {
        return method.index(WIDTH, 0).index(HEIGHT, 0).index(WIDTH, WIDTH - 1).index(HEIGHT, HEIGHT - 1);
    }

    private static Method times(Method method) {
        return method.argument(0, 10000, 0).argument(1, 60, 60).argument(1, 60, 1);
    }

    private static List<Method> methods() {
        List<Method> all = new ArrayList<>();
        addTunnel(all);
        addGustsAndRules(all);
        addQuestions(all);
        addForecasts(all);
        return all;
    }

    private static void addTunnel(List<Method> all) {
        all.add(new Method("build", (x, a) -> x.build(a[0], a[1])).argument(4, 32, 8).argument(2, 16, 3));
        all.add(new Method("set", (x, a) -> x.set(a[0], a[1])).argument(0, 2, 1).argument(0, 1, 1));
        all.add(new Method("solid", (x, a) -> x.solid(a[0], a[1], a[2]))
                .index(6, 1).index(WIDTH, 0).index(HEIGHT, 0));
        all.add(cells(new Method("block", (x, a) -> x.block(a[0], a[1], a[2], a[3], a[4])).index(6, 1)));
        all.add(new Method("clear", (x, a) -> x.clear(a[0], a[1])).index(WIDTH, 5).index(HEIGHT, 2));
        all.add(new Method("shift", (x, a) -> x.shift(a[0], a[1], a[2]))
                .index(6, 2).argument(-8, 8, 1).argument(-8, 8, -1));
        all.add(new Method("put", (x, a) -> x.put(a[0], a[1], a[2]))
                .index(WIDTH, 1).index(HEIGHT, 1).argument(0, 5, 3));
        Method fill = new Method("fill", (x, a) -> x.fill(a[4], a[0], a[1], a[2], a[3]));
        all.add(cells(fill).argument(1, 63, 9));
        all.add(cells(new Method("empty", (x, a) -> x.empty(a[0], a[1], a[2], a[3]))));
    }

    private static void addGustsAndRules(List<Method> all) {
        Method inlet = new Method("inlet", (x, a) -> x.inlet(a[0], a[1], a[2], a[3], a[4]));
        all.add(times(inlet.index(HEIGHT, 0).index(HEIGHT, HEIGHT - 1)));
        Method fan = new Method("fan", (x, a) -> x.fan(a[0], a[1], a[2], a[3], a[4], a[5]));
        all.add(times(fan.index(WIDTH, 2).index(HEIGHT, 0).index(HEIGHT, HEIGHT - 1)));
        Method drain = new Method("drain", (x, a) -> x.drain(a[0], a[1], a[2], a[3], a[4], a[5]));
        all.add(times(drain.index(WIDTH, 2).index(HEIGHT, 0).index(HEIGHT, HEIGHT - 1)));
        all.add(new Method("drop", (x, a) -> x.drop(a[0])).index(GUSTS, 1));
        all.add(new Method("type", (x, a) -> x.type(a[0])).argument(33, 126, 48));
        all.add(new Method("fault", (x, a) -> x.fault(a[0])).argument(0, 2, 0));
        all.add(new Method("becomes", (x, a) -> x.becomes(a[0], false)).argument(0, 63, 9));
        all.add(new Method("becomes in an odd cell", (x, a) -> x.becomes(a[0], true)).argument(0, 63, 9));
        all.add(new Method("run", (x, a) -> x.run(a[0])).argument(1, 40, 5));
        all.add(new Method("back", (x, a) -> x.back(a[0])).argument(1, 40, 5));
    }

    private static void addQuestions(List<Method> all) {
        all.add(new Method("cell", (x, a) -> x.cell(a[0], a[1])).index(WIDTH, 3).index(HEIGHT, 3));
        all.add(cells(new Method("density", (x, a) -> x.density(a[0], a[1], a[2], a[3]))));
        Method wind = new Method("wind", (x, a) -> x.wind(a[4], a[0], a[1], a[2], a[3]));
        all.add(cells(wind).argument(0, 1, 0));
        all.add(new Method("crossed", (x, a) -> x.crossed(a[0])).index(WIDTH, 3));
        all.add(new Method("gust", (x, a) -> x.gust(a[0], a[1])).index(GUSTS, 1).argument(0, 8, 3));
        all.add(new Method("body", (x, a) -> x.body(a[0], a[1])).index(6, 2).argument(0, 6, 3));
        all.add(new Method("zero", (x, a) -> x.zero(a[0])).index(6, 2));
        all.add(new Method("recent", (x, a) -> x.recent(a[0], a[1], a[2]))
                .index(6, 2).argument(0, 1, 1).argument(1, 64, 5));
        all.add(new Method("steady", (x, a) -> x.steady(a[0], a[1], a[2]) ? 1 : 0)
                .index(6, 2).argument(1, 32, 3).argument(0, 1000, 2));
        all.add(new Method("particles", (x, a) -> x.particles(a[0])).argument(0, 4, 2));
        all.add(new Method("momentum", (x, a) -> x.momentum(a[0], a[1])).argument(0, 1, 0).argument(0, 5, 2));
        all.add(new Method("count", (x, a) -> x.count(a[0])).argument(0, 11, 2));
    }

    private static void addForecasts(List<Method> all) {
        all.add(new Method("ahead", (x, a) -> x.ahead(a[0], a[1], a[2]))
                .index(6, 2).argument(0, 1, 1).argument(1, 40, 5));
        all.add(new Method("cycle", (x, a) -> x.cycle(a[0], a[1])).argument(2, 60, 5).argument(0, 1, 1));
        all.add(new Method("settles", (x, a) -> x.settles(a[0], a[1], a[2], a[3]))
                .index(6, 2).argument(1, 32, 3).argument(0, 1000, 2).argument(0, 40, 7));
        all.add(new Method("bestShift", (x, a) -> x.bestShift(a[0], a[1])).index(6, 2).argument(1, 40, 5));
        all.add(new Method("bestStart", (x, a) -> x.bestStart(a[0], a[1], a[2]))
                .index(GUSTS, 1).index(6, 2).argument(1, 40, 5));
        all.add(new Method("save", (x, a) -> x.save(a[0])).index(2, 1));
        all.add(new Method("restore", (x, a) -> x.restore(a[0])).index(2, 1));
        all.add(new Method("wipe", (x, a) -> x.wipe()));
        all.add(new Method("rules", (x, a) -> x.rules()));
        all.add(new Method("reversible", (x, a) -> x.reversible() ? 1 : 0));
        all.add(new Method("undo", (x, a) -> x.undo()));
    }

    // ---- arguments

    private static void goodOne(Method method) {
        LatticeTunnel x = stageOf(method);
        String outcome = Check.outcome(() -> method.asked.with(x, method.good()));
        Check.holds(method.told(method.good()) + " is possible", !outcome.endsWith("Exception"));
    }

    /** The least and the greatest one are in the range; whether the call is possible is another matter. */
    private static void ends(Method method) {
        for (int i = 0; i < method.arguments.size(); i++) {
            for (int end = 1; end <= 2; end++) {
                int[] values = method.good();
                values[i] = method.arguments.get(i)[end];
                LatticeTunnel x = stageOf(method);
                String outcome = Check.outcome(() -> method.asked.with(x, values));
                Check.holds(method.told(values) + " is in the range", outcome.equals(STATE)
                        || !outcome.endsWith("Exception"));
            }
        }
    }

    private static void beyond(Method method) {
        for (int i = 0; i < method.arguments.size(); i++) {
            int least = method.arguments.get(i)[1];
            int most = method.arguments.get(i)[2];
            int[] wrong = {least - 1, most + 1, Integer.MIN_VALUE, Integer.MAX_VALUE, least - 100, most + 256};
            for (int value : wrong) {
                int[] values = method.good();
                values[i] = value;
                refused("", method, values, RefusalTest.of(method), method.kind(i));
            }
        }
    }

    private static Supplier<LatticeTunnel> of(Method method) {
        return () -> stageOf(method);
    }

    /** Every choice of the arguments is wrong at once: an index is told first, whichever stands first. */
    private static void together(Method method, String where, Supplier<LatticeTunnel> stage) {
        int number = method.arguments.size();
        for (int chosen = 1; chosen < 1 << number; chosen++) {
            for (int end = 1; end <= 2; end++) {
                int[] values = method.good();
                boolean index = false;
                for (int i = 0; i < number; i++) {
                    if ((chosen >> i & 1) != 0) {
                        values[i] = method.arguments.get(i)[end] + (end == 1 ? -1 : 1);
                        index = index || method.kind(i).equals(INDEX);
                    }
                }
                refused(where, method, values, stage, index ? INDEX : ARGUMENT);
            }
        }
    }

    /** Takes a tunnel apart after the call, and another one like it without the call. */
    private static void refused(String where, Method method, int[] values, Supplier<LatticeTunnel> stage, String due) {
        LatticeTunnel x = stage.get();
        String told = method.told(values) + where;
        Check.same(told, Check.outcome(() -> method.asked.with(x, values)), due);
        Check.same(told + ": what is there then", Tunnels.apart(x), Tunnels.apart(stage.get()));
    }

    // ---- a second column or row that is less than the first one

    private static Method named(String name) {
        for (Method method : methods()) {
            if (method.name.equals(name)) {
                return method;
            }
        }
        throw new AssertionError(name);
    }

    private static void disorder() {
        for (String name : new String[] {"block", "fill", "empty", "density", "wind"}) {
            Method method = named(name);
            int first = name.equals("block") ? 1 : 0;
            for (int axis = 0; axis <= 1; axis++) {
                int[] values = method.good();
                values[first + axis] = 3;
                values[first + 2 + axis] = 3;
                LatticeTunnel x = stage();
                Check.holds(method.told(values) + " is a rectangle",
                        !Check.outcome(() -> method.asked.with(x, values)).endsWith("Exception"));
                values[first + 2 + axis] = 2;
                refused("", method, values, RefusalTest::stage, ARGUMENT);
                values[first + 3 - axis] = -1;
                refused("", method, values, RefusalTest::stage, INDEX);
            }
        }
        for (String name : new String[] {"inlet", "fan", "drain"}) {
            Method method = named(name);
            int first = name.equals("inlet") ? 0 : 1;
            int[] values = method.good();
            values[first] = 3;
            values[first + 1] = 3;
            LatticeTunnel x = stage();
            Check.holds(method.told(values) + " has a row",
                    !Check.outcome(() -> method.asked.with(x, values)).endsWith("Exception"));
            values[first + 1] = 2;
            refused("", method, values, RefusalTest::stage, ARGUMENT);
            values[first] = HEIGHT;
            refused("", method, values, RefusalTest::stage, INDEX);
            int[] lengths = method.good();
            lengths[first + 3] = 7;
            lengths[first + 4] = 7;
            LatticeTunnel y = stage();
            Check.holds(method.told(lengths) + " blows all the time",
                    !Check.outcome(() -> method.asked.with(y, lengths)).endsWith("Exception"));
            lengths[first + 4] = 8;
            refused("", method, lengths, RefusalTest::stage, ARGUMENT);
        }
    }

    // ---- not possible as things are

    private static void impossible() {
        notPossible("solid", "a solid cell of another body", RefusalTest::stage, 1, 3, 2);
        notPossible("solid", "a solid cell of its own", RefusalTest::stage, 0, 3, 2);
        notPossible("solid", "a cell with a particle", RefusalTest::stage, 1, 0, 4);
        notPossible("clear", "a free cell", RefusalTest::stage, 1, 1);
        notPossible("clear", "a free cell with a particle", RefusalTest::stage, 0, 4);
        shifts();
        notPossible("put", "a solid cell", RefusalTest::stage, 3, 2, 0);
        notPossible("put", "the particle is there", RefusalTest::stage, 0, 4, 0);
        Supplier<LatticeTunnel> six = RefusalTest::sixGusts;
        notPossible("inlet", "six gusts", six, 0, 4, 0, 60, 1);
        notPossible("fan", "six gusts", six, 2, 0, 4, 0, 60, 1);
        notPossible("drain", "six gusts", six, 2, 0, 4, 0, 60, 1);
        notPossible("type", "a full pad", RefusalTest::fullPad, 48);
        notPossible("rules", "a fault in the pad", () -> typed(">"));
        notPossible("rules", "a fault at the end of a full pad", RefusalTest::fullPad);
        takenBack();
        notPossible("bestShift", "a body without cells", RefusalTest::stage, 5, 40);
        notPossible("undo", "an empty history", RefusalTest::noHistory);
        notPossible("undo", "a new object", LatticeTunnel::new);
        notPossible("restore", "nothing saved in slot 0", RefusalTest::noSlots, 0);
        notPossible("restore", "nothing saved in slot 1", RefusalTest::noSlots, 1);
        notPossible("restore", "nothing saved in the other slot", RefusalTest::oneSlot, 1);
    }

    private static void shifts() {
        notPossible("shift", "a body without cells", RefusalTest::stage, 5, 0, 0);
        notPossible("shift", "beyond the last column", RefusalTest::stage, 2, 2, 0);
        notPossible("shift", "beyond the first column", RefusalTest::stage, 2, -6, 0);
        notPossible("shift", "above the first row", RefusalTest::stage, 2, 0, -2);
        notPossible("shift", "below the last row", RefusalTest::stage, 2, 0, 3);
        notPossible("shift", "beyond the end of a ring", RefusalTest::ringStage, 2, 2, 0);
        notPossible("shift", "beyond the other end of a ring", RefusalTest::ringStage, 2, -6, 0);
        notPossible("shift", "onto another body", RefusalTest::stage, 2, -2, 0);
        notPossible("shift", "onto another body with its last cell", RefusalTest::stage, 2, -2, 1);
        notPossible("shift", "onto a particle", RefusalTest::stage, 0, -1, 2);
    }

    private static void takenBack() {
        notPossible("back", "open ends", () -> changedRing(0), 1);
        notPossible("back", "a gust that does not blow yet", () -> changedRing(1), 1);
        notPossible("back", "rules that make two states one", () -> changedRing(2), 1);
        notPossible("back", "rules that make two states one in odd cells alone", () -> changedRing(3), 1);
        notPossible("back", "the time 0", () -> changedRing(4), 1);
        notPossible("back", "a time that is less by 1", () -> changedRing(5), 40);
    }

    private static void notPossible(String name, String where, Supplier<LatticeTunnel> stage, int... values) {
        Method method = named(name);
        refused(" with " + where, method, values, stage, STATE);
        Method there = new Method(name, method.asked);
        for (int i = 0; i < values.length; i++) {
            int[] argument = method.arguments.get(i).clone();
            argument[3] = values[i];
            there.arguments.add(argument);
        }
        together(there, " with " + where, stage);
    }

    private static LatticeTunnel sixGusts() {
        LatticeTunnel x = stage();
        for (int i = GUSTS; i < 6; i++) {
            x.drain(i, 1, 1, 0, 2, 2);
        }
        return x;
    }

    private static LatticeTunnel typed(String text) {
        LatticeTunnel x = stage();
        x.wipe();
        Tunnels.type(x, text);
        return x;
    }

    /** 80 characters without a fault but for the last one, behind which no rule comes. */
    private static LatticeTunnel fullPad() {
        return typed("01>01;12>12;23>23;34>34;45>45;05>05;02>02;13>13;24>24;35>35;0>0;1>1;2>2;3>3;4>4;");
    }

    private static LatticeTunnel changedRing(int how) {
        LatticeTunnel x = ringStage();
        switch (how) {
            case 0:
                x.set(0, 0);
                break;
            case 1:
                x.inlet(0, 0, 10000, 1, 1);
                break;
            case 2:
                Tunnels.type(x, "03>14");
                x.rules();
                break;
            case 3:
                Tunnels.type(x, "03>03|14");
                x.rules();
                break;
            case 4:
                x.build(WIDTH, HEIGHT);
                break;
            default:
                x.build(WIDTH, HEIGHT);
                x.run(39);
        }
        return x;
    }

    private static LatticeTunnel noHistory() {
        LatticeTunnel x = stage();
        for (int i = 0; i < 4; i++) {
            x.undo();
        }
        return x;
    }

    private static LatticeTunnel noSlots() {
        LatticeTunnel x = Tunnels.make(WIDTH, HEIGHT);
        x.solid(2, 5, 2);
        x.run(3);
        return x;
    }

    private static LatticeTunnel oneSlot() {
        LatticeTunnel x = noSlots();
        x.save(0);
        x.run(2);
        return x;
    }
}
