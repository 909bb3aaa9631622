/** Each promise of the document by its number; the answers that are due are worked out by hand from its words. */
public final class PromiseTest {
    public static void main(String[] args) {
        promise1();
        promise2();
        promise3();
        promise4();
        promise5();
        promise6();
        promise7();
        promise8();
        promise9();
        promise10();
        promise11();
        promise12();
        promise13();
        promise14();
        promise15();
        promise16();
        promise17();
        promise18();
        promise19();
        promise20();
        promise21();
        promise22();
        promise23();
        promise24();
        promise25();
        promise26();
        promise27();
        promise28();
        promise29();
        promise30();
        promise31();
        promise32();
        promise33();
        promise34();
        promise35();
        promise36();
        promise37();
        promise38();
        promise39();
        promise40();
        promise41();
        promise42();
        Check.end("PromiseTest");
    }

    // ---- the tunnel

    private static void promise1() {
        LatticeTunnel x = new LatticeTunnel();
        int[] counts = {16, 8, 0, 0, 2, 0, 0, 0, 0, 0, 0, 0};
        for (int what = 0; what < counts.length; what++) {
            Check.due("1 count " + what, x.count(what), counts[what]);
        }
        for (int c = 0; c < 16; c++) {
            Check.due("1 crossed", x.crossed(c), 0);
            for (int r = 0; r < 8; r++) {
                Check.due("1 cell", x.cell(c, r), 0);
            }
        }
        Check.due("1 book 03 even", x.becomes(9, false), 18);
        Check.due("1 book 03 odd", x.becomes(9, true), 36);
        Check.due("1 book 024", x.becomes(21, false), 42);
        Check.due("1 NONE", LatticeTunnel.NONE, -1);
        Check.noState("1 undo", () -> x.undo());
        Check.noState("1 restore 0", () -> x.restore(0));
        Check.noState("1 restore 1", () -> x.restore(1));
    }

    private static void promise2() {
        LatticeTunnel x = Tunnels.busy();
        x.set(0, 1);
        x.set(2, 1);
        Check.due("2 build", x.build(4, 2), 8);
        int[] counts = {4, 2, 0, 0, 2, 0, 0, 4, 0, 1, 1, 1};
        for (int what = 0; what < counts.length; what++) {
            Check.due("2 count " + what, x.count(what), counts[what]);
        }
        Check.due("2 rules stay", x.becomes(9, false), 36);
        for (int what = 0; what <= 5; what++) {
            Check.due("2 particles", x.particles(Math.min(4, what)), 0);
            Check.due("2 momentum", x.momentum(0, what), 0);
            Check.due("2 momentum", x.momentum(1, what), 0);
        }
        for (int b = 0; b < 6; b++) {
            Check.due("2 sum", x.body(b, 1), 0);
            Check.due("2 sum", x.body(b, 2), 0);
            Check.due("2 recent", x.recent(b, 0, 64), 0);
        }
        for (int c = 0; c < 4; c++) {
            Check.due("2 crossed", x.crossed(c), 0);
            Check.due("2 cell", x.cell(c, 1), 0);
        }
        Check.due("2 greatest", x.build(32, 16), 512);
        Check.due("2 all free", x.count(5), 0);
        Check.due("2 nothing solid", x.block(0, 0, 0, 31, 15), 512);
        x.build(32, 16);
        Check.due("2 all free", x.count(5), 0);
        Check.due("2 last cell", x.cell(31, 15), 0);
        for (int[] wrong : new int[][] {{3, 2}, {33, 2}, {4, 1}, {4, 17}, {-4, 4}, {Integer.MAX_VALUE, 4}}) {
            Check.noArgument("2 wrong", () -> x.build(wrong[0], wrong[1]));
        }
        Tunnels.unchanged("2 build wrong", Tunnels.busy(), () -> Tunnels.busy().build(3, 2));
        LatticeTunnel y = Tunnels.busy();
        Tunnels.isChange("2 build", y, () -> y.build(5, 5));
    }

    private static void promise3() {
        LatticeTunnel x = new LatticeTunnel();
        for (int what = 0; what <= 2; what++) {
            Check.due("3 was", x.set(what, 1), 0);
            Check.due("3 is", x.count(9 + what), 1);
            Check.due("3 was", x.set(what, 1), 1);
            Check.due("3 was", x.set(what, 0), 1);
            Check.due("3 is", x.count(9 + what), 0);
        }
        x.set(1, 1);
        Check.due("3 others", x.count(9) * 10 + x.count(11), 0);
        Check.noArgument("3 what", () -> x.set(3, 0));
        Check.noArgument("3 what", () -> x.set(-1, 0));
        Check.noArgument("3 value", () -> x.set(0, 2));
        Check.noArgument("3 value", () -> x.set(0, -1));
        LatticeTunnel y = Tunnels.busy();
        Tunnels.isChange("3 set", y, () -> y.set(0, 1));
        Tunnels.isChange("3 set to the same", y, () -> y.set(0, 0));
        Tunnels.unchanged("3 set", y, () -> y.set(0, 2));
    }

    private static void promise4() {
        LatticeTunnel x = Tunnels.make(6, 4);
        Check.due("4 first", x.solid(3, 0, 0), 1);
        Check.due("4 second", x.solid(3, 5, 3), 2);
        Check.due("4 other", x.solid(0, 2, 2), 1);
        Check.due("4 cell", x.cell(5, 3), -4);
        x.put(1, 1, 2);
        Check.noState("4 solid", () -> x.solid(1, 0, 0));
        Check.noState("4 particles", () -> x.solid(1, 1, 1));
        Check.noIndex("4 body", () -> x.solid(6, 3, 3));
        Check.noIndex("4 body", () -> x.solid(-1, 3, 3));
        Check.noIndex("4 column", () -> x.solid(0, 6, 0));
        Check.noIndex("4 column", () -> x.solid(0, -1, 0));
        Check.noIndex("4 row", () -> x.solid(0, 0, 4));
        Check.noIndex("4 row", () -> x.solid(0, 0, -1));
        Check.noIndex("4 body before state", () -> x.solid(6, 0, 0));
        Tunnels.isChange("4 solid", x, () -> x.solid(5, 4, 0));
        Tunnels.unchanged("4 solid", x, () -> x.solid(1, 0, 0));
    }

    private static void promise5() {
        LatticeTunnel x = Tunnels.make(6, 4);
        x.put(2, 1, 0);
        x.solid(4, 3, 1);
        Check.due("5 block", x.block(1, 2, 1, 3, 2), 2);
        Check.due("5 particles stay", x.cell(2, 1), 1);
        Check.due("5 other body stays", x.cell(3, 1), -5);
        Check.due("5 made", x.cell(2, 2), -2);
        Check.due("5 made", x.cell(3, 2), -2);
        Check.due("5 beside", x.cell(4, 2) + x.cell(1, 2) + x.cell(2, 3) + x.cell(2, 0), 0);
        Check.due("5 whole", x.block(1, 0, 0, 5, 3), 20);
        Check.due("5 again", x.block(1, 0, 0, 5, 3), 0);
        Check.due("5 one cell", Tunnels.make(6, 4).block(5, 5, 3, 5, 3), 1);
        Check.noIndex("5 body", () -> x.block(6, 0, 0, 1, 1));
        Check.noIndex("5 column", () -> x.block(0, -1, 0, 1, 1));
        Check.noIndex("5 row", () -> x.block(0, 0, 4, 1, 1));
        Check.noIndex("5 last column", () -> x.block(0, 0, 0, 6, 1));
        Check.noIndex("5 last row", () -> x.block(0, 0, 0, 1, 4));
        Check.noIndex("5 index before order", () -> x.block(0, 2, 1, 1, -1));
        Check.noArgument("5 columns", () -> x.block(0, 2, 0, 1, 1));
        Check.noArgument("5 rows", () -> x.block(0, 0, 2, 1, 1));
        LatticeTunnel y = Tunnels.busy();
        Tunnels.isChange("5 block", y, () -> y.block(3, 0, 0, 8, 5));
        Tunnels.unchanged("5 block", y, () -> y.block(3, 1, 0, 0, 5));
    }

    private static void promise6() {
        LatticeTunnel x = Tunnels.make(6, 4);
        x.block(4, 1, 1, 2, 1);
        Check.due("6 body", x.clear(1, 1), 4);
        Check.due("6 free", x.cell(1, 1), 0);
        Check.due("6 other cell", x.cell(2, 1), -5);
        Check.noState("6 free", () -> x.clear(1, 1));
        Check.noIndex("6 column", () -> x.clear(6, 1));
        Check.noIndex("6 column", () -> x.clear(-1, 1));
        Check.noIndex("6 row", () -> x.clear(1, 4));
        Check.noIndex("6 row", () -> x.clear(1, -1));
        Tunnels.isChange("6 clear", x, () -> x.clear(2, 1));
        Tunnels.unchanged("6 clear", x, () -> x.clear(0, 0));
    }

    private static void promise7() {
        LatticeTunnel x = Tunnels.make(12, 11);
        x.block(2, 1, 1, 2, 2);
        Check.due("7 onto itself", x.shift(2, 1, 1), 4);
        Check.due("7 left", x.cell(1, 1) + x.cell(1, 2) + x.cell(2, 1), 0);
        for (int c = 2; c <= 3; c++) {
            for (int r = 2; r <= 3; r++) {
                Check.due("7 place", x.cell(c, r), -3);
            }
        }
        Check.due("7 by 8", x.shift(2, 8, 7), 4);
        Check.due("7 first column", x.body(2, 3), 10);
        Check.due("7 last row", x.body(2, 6), 10);
        Check.noState("7 beyond the right end", () -> x.shift(2, 1, 0));
        Check.noState("7 beyond the last row", () -> x.shift(2, 0, 1));
        x.set(0, 1);
        Check.noState("7 beyond the end of a ring", () -> x.shift(2, 1, 0));
        Check.due("7 back", x.shift(2, -8, -8), 4);
        Check.due("7 cell", x.cell(3, 2), -3);
        Check.due("7 cell", x.cell(2, 1), -3);
        Check.noState("7 beyond the left end", () -> x.shift(2, -3, 0));
        Check.noState("7 beyond the first row", () -> x.shift(2, 0, -2));
        x.solid(0, 4, 2);
        Check.noState("7 another body", () -> x.shift(2, 1, 0));
        x.put(2, 3, 5);
        Check.noState("7 particles", () -> x.shift(2, 0, 1));
        Check.due("7 not moved", x.cell(2, 1), -3);
        Check.noState("7 no cells", () -> x.shift(5, 0, 0));
        Check.due("7 by nothing", x.shift(2, 0, 0), 4);
        Check.noArgument("7 columns", () -> x.shift(2, 9, 0));
        Check.noArgument("7 columns", () -> x.shift(2, -9, 0));
        Check.noArgument("7 rows", () -> x.shift(2, 0, 9));
        Check.noArgument("7 rows before state", () -> x.shift(5, 0, -9));
        Check.noIndex("7 body before argument", () -> x.shift(6, 9, 0));
        Check.noIndex("7 body", () -> x.shift(-1, 0, 0));
        shiftAtTheEdges();
        Tunnels.isChange("7 shift", x, () -> x.shift(2, 0, -1));
        Tunnels.isChange("7 shift by nothing", x, () -> x.shift(2, 0, 0));
        Tunnels.unchanged("7 shift", x, () -> x.shift(2, 1, 0));
    }

    private static void shiftAtTheEdges() {
        LatticeTunnel x = Tunnels.make(32, 16);
        x.block(1, 3, 7, 4, 8);
        x.shift(1, -3, -7);
        Check.due("7 to the first column and row", x.cell(0, 0), -2);
        Check.due("7 rest", x.cell(1, 1), -2);
        x.put(0, 2, 0);
        Check.noState("7 particles under a later row", () -> x.shift(1, 0, 1));
        x.empty(0, 2, 0, 2);
        x.put(1, 8, 0);
        Check.noState("7 particles under the first row", () -> x.shift(1, 0, 8));
        Check.due("7 eight rows", x.shift(1, 8, 7), 4);
        Check.due("7 eight rows", x.shift(1, 8, -7), 4);
        Check.due("7 eight rows down", x.shift(1, 8, 8), 4);
        Check.due("7 first row left", x.count(5), 4);
        x.shift(1, 6, 6);
        Check.due("7 last cell", x.cell(31, 15), -2);
        Check.due("7 cells", x.body(1, 3) * 100 + x.body(1, 5), 3014);
    }

    private static void promise8() {
        LatticeTunnel x = Tunnels.make(6, 4);
        int sum = 0;
        for (int d = 0; d < 6; d++) {
            sum += 1 << d;
            Check.due("8 put", x.put(5, 3, d), sum);
        }
        Check.due("8 particles", x.particles(0), 6);
        Check.due("8 along", x.momentum(0, 0), 0);
        x.put(0, 0, 4);
        Check.due("8 along", x.momentum(0, 0), -1);
        Check.due("8 across", x.momentum(1, 0), -1);
        Check.noState("8 has it", () -> x.put(5, 3, 0));
        x.solid(0, 2, 2);
        Check.noState("8 solid", () -> x.put(2, 2, 0));
        Check.noArgument("8 direction", () -> x.put(2, 2, 6));
        Check.noArgument("8 direction", () -> x.put(2, 3, -1));
        Check.noIndex("8 column before direction", () -> x.put(6, 2, 6));
        Check.noIndex("8 column", () -> x.put(-1, 2, 0));
        Check.noIndex("8 row", () -> x.put(1, 4, 0));
        Check.noIndex("8 row", () -> x.put(1, -1, 0));
        Tunnels.isChange("8 put", x, () -> x.put(0, 0, 0));
        Tunnels.unchanged("8 put", x, () -> x.put(5, 3, 0));
    }

    private static void promise9() {
        LatticeTunnel x = Tunnels.make(6, 4);
        x.put(1, 1, 0);
        x.solid(0, 2, 1);
        // Two free cells of three; one of them has the east particle of 33 already.
        Check.due("9 fill", x.fill(33, 0, 1, 2, 1), 3);
        Check.due("9 cell", x.cell(0, 1), 33);
        Check.due("9 cell", x.cell(1, 1), 33);
        Check.due("9 solid", x.cell(2, 1), -1);
        Check.due("9 beside", x.cell(0, 0) + x.cell(0, 2) + x.cell(3, 1), 0);
        Check.due("9 account", x.particles(0), 4);
        Check.due("9 along", x.momentum(0, 0), 6);
        Check.due("9 across", x.momentum(1, 0), -2);
        Check.due("9 all", x.fill(63, 0, 0, 5, 3), 23 * 6 - 4);
        Check.due("9 none", x.fill(1, 0, 0, 5, 3), 0);
        Check.noArgument("9 state", () -> x.fill(0, 0, 0, 1, 1));
        Check.noArgument("9 state", () -> x.fill(64, 0, 0, 1, 1));
        Check.noArgument("9 columns", () -> x.fill(1, 1, 0, 0, 1));
        Check.noArgument("9 rows", () -> x.fill(1, 0, 1, 0, 0));
        Check.noIndex("9 index before state", () -> x.fill(0, 0, 0, 6, 1));
        Check.noIndex("9 column", () -> x.fill(1, -1, 0, 1, 1));
        Check.noIndex("9 row", () -> x.fill(1, 0, 4, 1, 3));
        Check.noIndex("9 last row", () -> x.fill(1, 0, 0, 1, 4));
        LatticeTunnel y = Tunnels.busy();
        Tunnels.isChange("9 fill", y, () -> y.fill(7, 0, 0, 8, 5));
        Tunnels.unchanged("9 fill", y, () -> y.fill(0, 0, 0, 8, 5));
    }

    private static void promise10() {
        LatticeTunnel x = Tunnels.make(6, 4);
        x.fill(3, 0, 0, 2, 1);
        x.solid(3, 4, 1);
        Check.due("10 empty", x.empty(1, 0, 5, 1), 8);
        Check.due("10 taken", x.cell(1, 0) + x.cell(2, 1), 0);
        Check.due("10 stays", x.cell(0, 1), 3);
        Check.due("10 solid stays", x.cell(4, 1), -4);
        Check.due("10 account", x.particles(2), 8);
        Check.due("10 put stays", x.particles(0), 12);
        Check.due("10 along", x.momentum(0, 0), 6);
        Check.due("10 across", x.momentum(1, 0), 2);
        Check.due("10 nothing", x.empty(5, 3, 5, 3), 0);
        Check.noIndex("10 column", () -> x.empty(6, 0, 6, 1));
        Check.noIndex("10 row", () -> x.empty(0, -1, 1, 1));
        Check.noIndex("10 last column", () -> x.empty(0, 0, 6, 1));
        Check.noIndex("10 index before order", () -> x.empty(2, 0, 1, 4));
        Check.noArgument("10 columns", () -> x.empty(1, 0, 0, 1));
        Check.noArgument("10 rows", () -> x.empty(0, 1, 0, 0));
        LatticeTunnel y = Tunnels.busy();
        Tunnels.isChange("10 empty", y, () -> y.empty(0, 0, 8, 5));
        Tunnels.unchanged("10 empty", y, () -> y.empty(1, 0, 0, 5));
    }

    // ---- gusts

    private static void promise11() {
        LatticeTunnel x = Tunnels.make(6, 4);
        Check.due("11 number", x.inlet(1, 2, 3, 4, 2), 0);
        int[] numbers = {0, 0, 1, 2, 3, 4, 2, 0, 0};
        for (int what = 0; what <= 8; what++) {
            Check.due("11 number " + what, x.gust(0, what), numbers[what]);
        }
        int[] blows = {0, 0, 0, 1, 1, 0, 0, 1, 1, 0, 0, 1};
        for (int time = 0; time < blows.length; time++) {
            Check.due("11 blows at " + time, x.gust(0, 8), blows[time]);
            int effect = x.gust(0, 7);
            x.run(1);
            Check.due("11 effect at " + time, x.gust(0, 7) - effect, 2 * blows[time]);
            Check.due("11 moved on at " + time, x.cell(1, 1) + x.cell(1, 2), 2 * blows[time]);
            Check.due("11 other rows at " + time, x.density(0, 0, 5, 0) + x.density(0, 3, 5, 3), 0);
        }
        Check.due("11 account", x.particles(1), 10);
        Check.due("11 momentum", x.momentum(0, 1), 20);
        Check.due("11 momentum", x.momentum(1, 1), 0);
        LatticeTunnel full = Tunnels.make(6, 4);
        full.put(0, 0, 0);
        full.put(0, 1, 3);
        full.solid(0, 0, 2);
        full.inlet(0, 3, 0, 60, 60);
        full.run(1);
        Check.due("11 not where one is, nor in a solid cell", full.gust(0, 7), 2);
        inletErrors();
    }

    private static void inletErrors() {
        LatticeTunnel x = Tunnels.make(6, 4);
        Check.noIndex("11 row", () -> x.inlet(-1, 2, 0, 1, 1));
        Check.noIndex("11 row", () -> x.inlet(4, 4, 0, 1, 1));
        Check.noIndex("11 last row before start", () -> x.inlet(0, 4, -1, 1, 1));
        Check.noArgument("11 rows", () -> x.inlet(2, 1, 0, 1, 1));
        Check.noArgument("11 start", () -> x.inlet(0, 1, -1, 1, 1));
        Check.noArgument("11 start", () -> x.inlet(0, 1, 10001, 1, 1));
        Check.noArgument("11 period", () -> x.inlet(0, 1, 0, 0, 1));
        Check.noArgument("11 period", () -> x.inlet(0, 1, 0, 61, 1));
        Check.noArgument("11 length", () -> x.inlet(0, 1, 0, 5, 0));
        Check.noArgument("11 length", () -> x.inlet(0, 1, 0, 5, 6));
        Tunnels.isChange("11 inlet", x, () -> x.inlet(0, 3, 10000, 60, 60));
        for (int i = 0; i < 6; i++) {
            Check.due("11 number", x.inlet(0, 3, 10000, 60, 60), i);
        }
        Check.noState("11 six", () -> x.inlet(0, 3, 0, 1, 1));
        Check.noArgument("11 argument before six", () -> x.inlet(0, 3, 0, 1, 2));
        Check.noIndex("11 row before six", () -> x.inlet(0, 4, 0, 1, 1));
        Tunnels.unchanged("11 inlet", x, () -> x.inlet(0, 3, 0, 1, 1));
    }

    private static void promise12() {
        LatticeTunnel x = Tunnels.withBook(6, 4, "");
        x.put(2, 0, 3);
        x.fill(9, 2, 1, 2, 1);
        x.put(2, 2, 1);
        x.put(3, 3, 3);
        Check.due("12 number", x.fan(2, 0, 3, 0, 2, 1), 0);
        Check.due("12 kind", x.gust(0, 0), 1);
        Check.due("12 column", x.gust(0, 1), 2);
        x.run(1);
        Check.due("12 turned", x.cell(3, 0), 1);
        Check.due("12 has both", x.cell(3, 1), 1);
        Check.due("12 has both", x.cell(1, 1), 8);
        Check.due("12 has neither", x.cell(2, 1), 2);
        Check.due("12 other column", x.cell(2, 3), 8);
        Check.due("12 effect", x.gust(0, 7), 1);
        Check.due("12 momentum", x.momentum(0, 1), 4);
        Check.due("12 momentum", x.momentum(1, 1), 0);
        Check.due("12 none put in", x.particles(1), 0);
        x.run(1);
        Check.due("12 does not blow", x.gust(0, 7), 1);
        Check.due("12 goes on", x.cell(1, 3), 8);
        Check.noIndex("12 column", () -> x.fan(6, 0, 3, 0, 2, 1));
        Check.noIndex("12 column", () -> x.fan(-1, 0, 3, 0, 2, 1));
        Check.noIndex("12 row", () -> x.fan(0, -1, 3, 0, 2, 1));
        Check.noIndex("12 last row", () -> x.fan(0, 0, 4, 0, 2, 3));
        Check.noArgument("12 rows", () -> x.fan(0, 1, 0, 0, 2, 1));
        Check.noArgument("12 start", () -> x.fan(0, 0, 0, 10001, 2, 1));
        Check.noArgument("12 period", () -> x.fan(0, 0, 0, 0, 61, 1));
        Check.noArgument("12 length", () -> x.fan(0, 0, 0, 0, 2, 3));
        Tunnels.isChange("12 fan", x, () -> x.fan(5, 3, 3, 9, 60, 60));
        for (int i = 1; i < 6; i++) {
            Check.due("12 number", x.fan(5, 3, 3, 9, 60, 60), i);
        }
        Check.noState("12 six", () -> x.fan(5, 3, 3, 9, 60, 60));
        Tunnels.unchanged("12 fan", x, () -> x.fan(5, 3, 3, 9, 60, 60));
    }

    private static void promise13() {
        LatticeTunnel x = Tunnels.withBook(6, 4, "");
        x.fill(35, 2, 1, 3, 2);
        x.solid(0, 2, 3);
        Check.due("13 number", x.drain(2, 0, 3, 1, 2, 1), 0);
        Check.due("13 kind", x.gust(0, 0), 2);
        Check.due("13 not yet", x.gust(0, 8), 0);
        x.run(1);
        Check.due("13 not yet", x.particles(2), 0);
        x.empty(0, 0, 5, 3);
        x.fill(35, 2, 1, 3, 1);
        x.run(1);
        Check.due("13 effect", x.gust(0, 7), 3);
        Check.due("13 account", x.particles(2), 12 + 3);
        Check.due("13 along", x.momentum(0, 1), -4);
        Check.due("13 across", x.momentum(1, 1), 0);
        Check.due("13 other column", x.particles(4), 3);
        Check.due("13 solid", x.cell(2, 3), -1);
        Check.noIndex("13 column", () -> x.drain(6, 0, 3, 0, 2, 1));
        Check.noIndex("13 row", () -> x.drain(0, 4, 3, 0, 2, 1));
        Check.noArgument("13 rows", () -> x.drain(0, 1, 0, 0, 2, 1));
        Check.noArgument("13 length", () -> x.drain(0, 0, 0, 0, 2, 0));
        Tunnels.isChange("13 drain", x, () -> x.drain(5, 3, 3, 9, 60, 60));
        for (int i = 1; i < 6; i++) {
            Check.due("13 number", x.drain(5, 3, 3, 9, 60, 60), i);
        }
        Check.noState("13 six", () -> x.drain(5, 3, 3, 9, 60, 60));
        Tunnels.unchanged("13 drain", x, () -> x.drain(5, 3, 3, 9, 60, 60));
    }

    private static void promise14() {
        LatticeTunnel x = Tunnels.make(6, 4);
        x.inlet(0, 0, 5, 2, 1);
        x.fan(3, 1, 1, 6, 3, 1);
        x.drain(4, 2, 2, 7, 4, 1);
        Check.noIndex("14 gust", () -> x.drop(3));
        Check.noIndex("14 gust", () -> x.drop(-1));
        Tunnels.isChange("14 drop", x, () -> x.drop(0));
        Check.due("14 drop", x.drop(1), 2);
        Check.due("14 first stays", x.gust(0, 4), 5);
        int[] numbers = {2, 4, 2, 2, 7, 4, 1, 0, 0};
        for (int what = 0; what <= 8; what++) {
            Check.due("14 later one", x.gust(1, what), numbers[what]);
        }
        Check.due("14 drop", x.drop(0), 1);
        Check.due("14 drop", x.drop(0), 0);
        Check.noIndex("14 none", () -> x.drop(0));
        Tunnels.unchanged("14 drop", x, () -> x.drop(0));
        LatticeTunnel y = Tunnels.make(6, 4);
        y.inlet(0, 3, 0, 1, 1);
        y.run(2);
        y.drop(0);
        Check.due("14 account stays", y.particles(1), 8);
        y.empty(0, 0, 5, 3);
        y.run(1);
        Check.due("14 blows no more", y.particles(4), 0);
        y.inlet(0, 3, 0, 1, 1);
        Check.due("14 new effect", y.gust(0, 7), 0);
        LatticeTunnel z = Tunnels.make(6, 4);
        for (int i = 0; i < 6; i++) {
            z.fan(i, 0, 3, i, 10 + i, 1);
        }
        Check.due("14 of six", z.drop(2), 5);
        Check.due("14 last of six", z.gust(4, 1) * 100 + z.gust(4, 5), 515);
        Check.due("14 before", z.gust(1, 1), 1);
        Check.due("14 last one of five", z.drop(4), 4);
    }

    // ---- rules of collision

    private static void promise15() {
        LatticeTunnel x = new LatticeTunnel();
        Check.noArgument("15 space", () -> x.type(32));
        Check.noArgument("15 beyond", () -> x.type(127));
        Check.noArgument("15 negative", () -> x.type(-1));
        for (int i = 1; i <= 80; i++) {
            Check.due("15 length", x.type(i % 2 == 0 ? 33 : 126), i);
        }
        Check.due("15 length", x.count(8), 80);
        Check.noState("15 full", () -> x.type(48));
        Check.noArgument("15 argument before full", () -> x.type(32));
        Check.due("15 no change", x.count(7), 0);
        Check.due("15 stays", x.count(8), 80);
    }

    private static void promise16() {
        LatticeTunnel x = Tunnels.typed("03>14");
        Check.due("16 wipe", x.wipe(), 5);
        Check.due("16 empty", x.wipe(), 0);
        Check.due("16 length", x.count(8), 0);
        Check.due("16 no change", x.count(7), 0);
        Tunnels.type(x, "0");
        Check.due("16 anew", x.fault(0), 1);
    }

    private static void promise17() {
        faultIs("", -1, -1, -1);
        faultIs("0>0", -1, -1, -1);
        faultIs("*03>14|25;*024>135", -1, -1, -1);
        faultIs("012345>012345|012345", -1, -1, -1);
        // Form: what cannot stand at its place, or the end.
        faultIs("*", 1, 1, 0);
        faultIs("**0>0", 1, 1, 0);
        faultIs(">", 0, 1, 0);
        faultIs("6>6", 0, 1, 0);
        faultIs("0", 1, 1, 0);
        faultIs("0>", 2, 1, 0);
        faultIs("0|0", 1, 1, 0);
        faultIs("0>*0", 2, 1, 0);
        faultIs("30>03", 1, 1, 0);
        faultIs("00>0", 1, 1, 0);
        faultIs("03>30", 4, 1, 0);
        faultIs("03>14|", 6, 1, 0);
        faultIs("03>14|x", 6, 1, 0);
        faultIs("03>14|25|03", 8, 1, 0);
        faultIs("03>14>25", 5, 1, 0);
        faultIs("03>14x", 5, 1, 0);
        faultIs(";", 0, 1, 0);
        faultIs("0>0;", 4, 1, 1);
        faultIs("0>0;;1>1", 4, 1, 1);
        faultIs("0>0;x", 4, 1, 1);
        faultIs("0>0;1>1;", 8, 1, 2);
        // A state in front twice.
        faultIs("03>14;03>25", 6, 2, 1);
        faultIs("*03>14;25>03", 7, 2, 1);
        faultIs("25>03;*03>14", 6, 2, 1);
        faultIs("*024>024;1>1;*135>135", 13, 2, 2);
        faultIs("*03>14;1>1;*03>14", 11, 2, 2);
        // Number or momentum not kept.
        faultIs("03>1", 3, 3, 0);
        faultIs("03>024", 3, 3, 0);
        faultIs("0>1", 2, 3, 0);
        faultIs("*02>1", 4, 3, 0);
        faultIs("03>14|24", 6, 3, 0);
        faultIs("03>24|24", 3, 3, 0);
        faultIs("0>0;*03>25|1", 11, 3, 1);
        // Same number and same momentum along, not across.
        faultIs("01>05", 3, 3, 0);
        // Same momentum and another number.
        faultIs("02>1", 3, 3, 0);
        // The kinds in their order, and rules in theirs.
        faultIs("0>0;0>1", 4, 2, 1);
        faultIs("0>0;0>1x", 7, 1, 1);
        faultIs("0>1;x", 2, 3, 0);
        faultIs("0>1;", 2, 3, 0);
        faultIs("0>1;0>0", 2, 3, 0);
        LatticeTunnel x = Tunnels.typed("0");
        Check.noArgument("17 what", () -> x.fault(3));
        Check.noArgument("17 what", () -> x.fault(-1));
        Check.due("17 pad stays", x.count(8), 1);
        Check.due("17 no change", x.count(7), 0);
    }

    private static void faultIs(String text, int position, int kind, int rule) {
        LatticeTunnel x = Tunnels.typed(text);
        Check.due("17 position in " + text, x.fault(0), position);
        Check.due("17 kind in " + text, x.fault(1), kind);
        Check.due("17 rule in " + text, x.fault(2), rule);
    }

    private static void promise18() {
        LatticeTunnel x = Tunnels.typed("03>25;*024>135;0124>0124");
        Check.due("18 rules", x.rules(), 3);
        Check.due("18 pad", x.count(8), 0);
        Check.due("18 count", x.count(4), 3);
        Check.due("18 book", x.becomes(9, false), 36);
        Check.due("18 one alone", x.becomes(18, false), 18);
        Check.due("18 star", x.becomes(42, true), 21);
        Tunnels.type(x, "03>1");
        Check.noState("18 fault", () -> x.rules());
        Check.due("18 stays", x.count(8), 4);
        Check.due("18 book stays", x.becomes(9, false), 36);
        Tunnels.unchanged("18 rules", x, () -> x.rules());
        x.wipe();
        Tunnels.isChange("18 rules", x, () -> x.rules());
        Check.due("18 empty book", x.rules(), 0);
        for (int s = 0; s < 64; s++) {
            Check.due("18 empty book", x.becomes(s, s % 2 == 0), s);
        }
        Tunnels.type(x, "0>0");
        x.rules();
        Tunnels.type(x, "1");
        x.undo();
        Check.due("18 undo leaves the pad", x.count(8), 1);
        Check.due("18 undo", x.count(4), 0);
        StringBuilder longest = new StringBuilder("*0>0");
        while (longest.length() < 70) {
            longest.append(";").append(new String[] {
                "01>01", "12>12", "23>23", "34>34", "45>45", "05>05", "02>02", "13>13", "24>24", "35>35", "04>04",
                "15>15", "03>14"}[(longest.length() - 4) / 6]);
        }
        LatticeTunnel y = Tunnels.typed(longest.toString());
        Check.due("18 long", y.rules(), 12);
    }

    private static void promise19() {
        LatticeTunnel x = new LatticeTunnel();
        int[] states = {9, 18, 36, 21, 42, 0, 63, 27, 1};
        int[] even = {18, 36, 9, 42, 21, 0, 63, 27, 1};
        int[] odd = {36, 9, 18, 42, 21, 0, 63, 27, 1};
        for (int i = 0; i < states.length; i++) {
            Check.due("19 even " + states[i], x.becomes(states[i], false), even[i]);
            Check.due("19 odd " + states[i], x.becomes(states[i], true), odd[i]);
        }
        Check.noArgument("19 state", () -> x.becomes(64, true));
        Check.noArgument("19 state", () -> x.becomes(-1, false));
        // 0 and 3 cancel, and so do 2 and 5: 013 and 125 have three particles each and the momentum of 1.
        LatticeTunnel y = Tunnels.withBook(6, 4, "*013>125");
        Check.due("19 013", y.becomes(11, true), 38);
        // Greater by 5: 502 becomes 041.
        Check.due("19 025", y.becomes(37, false), 19);
        Check.due("19 012", y.becomes(7, false), 7);
    }

    // ---- ticks

    private static void promise20() {
        movesIs(3, 2, new int[][] {{4, 2}, {3, 1}, {2, 1}, {2, 2}, {2, 3}, {3, 3}});
        movesIs(3, 3, new int[][] {{4, 3}, {4, 2}, {3, 2}, {2, 3}, {3, 4}, {4, 4}});
        walls();
        ends();
        bodies();
        collisions();
        gustsFirst();
        greatest();
        LatticeTunnel x = Tunnels.make(6, 4);
        Check.due("20 run", x.run(1), 1);
        Check.due("20 run", x.run(40), 41);
        Check.due("20 time", x.count(2), 41);
        Check.noArgument("20 ticks", () -> x.run(0));
        Check.noArgument("20 ticks", () -> x.run(41));
        LatticeTunnel y = Tunnels.busy();
        Tunnels.isChange("20 run", y, () -> y.run(40));
        Tunnels.unchanged("20 run", y, () -> y.run(0));
    }

    private static void movesIs(int column, int row, int[][] places) {
        for (int d = 0; d < 6; d++) {
            LatticeTunnel x = Tunnels.make(8, 6);
            x.put(column, row, d);
            x.run(1);
            Check.due("20 direction " + d, x.cell(places[d][0], places[d][1]), 1 << d);
            Check.due("20 one particle", x.particles(4), 1);
        }
    }

    private static void wallIs(int smooth, int row, int direction, int becomes, int along, int across) {
        LatticeTunnel x = Tunnels.make(8, 4);
        x.set(row == 0 ? 1 : 2, smooth);
        x.put(3, row, direction);
        x.run(1);
        Check.due("20 wall " + smooth + " direction " + direction, x.cell(3, row), 1 << becomes);
        Check.due("20 wall along", x.momentum(0, 3), along);
        Check.due("20 wall across", x.momentum(1, 3), across);
        Check.due("20 wall ends", x.particles(3), 0);
    }

    private static void walls() {
        wallIs(0, 0, 1, 4, 2, 2);
        wallIs(0, 0, 2, 5, -2, 2);
        wallIs(0, 3, 4, 1, -2, -2);
        wallIs(0, 3, 5, 2, 2, -2);
        wallIs(1, 0, 1, 5, 0, 2);
        wallIs(1, 0, 2, 4, 0, 2);
        wallIs(1, 3, 4, 2, 0, -2);
        wallIs(1, 3, 5, 1, 0, -2);
        // The wall comes before the end: row 0 is even, and north-west of column 0 is beyond the left end too.
        LatticeTunnel x = Tunnels.make(4, 2);
        x.put(0, 0, 2);
        x.put(3, 1, 5);
        x.run(1);
        Check.due("20 corner", x.cell(0, 0), 32);
        Check.due("20 corner", x.cell(3, 1), 4);
    }

    private static void leaves(int column, int row, int direction, int along, int across) {
        LatticeTunnel x = Tunnels.make(8, 6);
        x.put(column, row, direction);
        x.run(1);
        Check.due("20 left", x.particles(3), 1);
        Check.due("20 present", x.particles(4), 0);
        Check.due("20 left along", x.momentum(0, 4), along);
        Check.due("20 left across", x.momentum(1, 4), across);
    }

    private static void goesRound(int column, int row, int direction, int toColumn, int toRow) {
        LatticeTunnel x = Tunnels.ring(8, 6);
        x.put(column, row, direction);
        x.run(1);
        Check.due("20 ring", x.cell(toColumn, toRow), 1 << direction);
        Check.due("20 ring left", x.particles(3), 0);
    }

    private static void ends() {
        leaves(7, 2, 0, 2, 0);
        leaves(0, 2, 3, -2, 0);
        leaves(0, 2, 2, -1, 1);
        leaves(0, 2, 4, -1, -1);
        leaves(7, 3, 1, 1, 1);
        leaves(7, 3, 5, 1, -1);
        goesRound(7, 2, 0, 0, 2);
        goesRound(0, 2, 3, 7, 2);
        goesRound(0, 2, 2, 7, 1);
        goesRound(0, 2, 4, 7, 3);
        goesRound(7, 3, 1, 0, 2);
        goesRound(7, 3, 5, 0, 4);
        LatticeTunnel x = Tunnels.ring(32, 2);
        x.put(31, 0, 0);
        x.put(0, 1, 3);
        x.run(1);
        Check.due("20 widest ring", x.cell(0, 0), 1);
        Check.due("20 widest ring", x.cell(31, 1), 8);
    }

    private static void bodies() {
        int[] along = {4, 2, -2, -4, -2, 2};
        int[] across = {0, 2, 2, 0, -2, -2};
        for (int d = 0; d < 6; d++) {
            LatticeTunnel x = Tunnels.make(8, 6);
            x.solid(d, Tunnels.AROUND[d][0], Tunnels.AROUND[d][1]);
            x.put(3, 2, d);
            x.run(1);
            Check.due("20 bounced", x.cell(3, 2), 1 << (d + 3) % 6);
            Check.due("20 body along", x.body(d, 1), along[d]);
            Check.due("20 body across", x.body(d, 2), across[d]);
            Check.due("20 bodies along", x.momentum(0, 2), along[d]);
            Check.due("20 bodies across", x.momentum(1, 2), across[d]);
            Check.due("20 other body", x.body((d + 1) % 6, 1), 0);
        }
        LatticeTunnel x = Tunnels.ring(8, 6);
        x.solid(4, 0, 2);
        x.put(7, 2, 0);
        x.run(1);
        Check.due("20 bounced over the end of a ring", x.cell(7, 2), 8);
        Check.due("20 body", x.body(4, 1), 4);
    }

    private static void collisions() {
        LatticeTunnel x = Tunnels.make(8, 6);
        x.fill(9, 2, 2, 3, 2);
        x.run(1);
        // Cell (2, 2) is even and gets 1 and 4; (3, 2) is odd and gets 2 and 5.
        Check.due("20 even cell", x.cell(2, 1), 2 + 4);
        Check.due("20 even cell", x.cell(1, 3), 16);
        Check.due("20 odd cell", x.cell(3, 3), 32);
        LatticeTunnel y = Tunnels.make(8, 6);
        y.run(1);
        y.fill(9, 2, 2, 2, 2);
        y.run(1);
        Check.due("20 odd by the time", y.cell(1, 1), 4);
        Check.due("20 odd by the time", y.cell(2, 3), 32);
        LatticeTunnel z = Tunnels.make(8, 6);
        z.fill(9, 2, 3, 2, 3);
        z.run(1);
        Check.due("20 odd by the row", z.cell(2, 2), 4);
        Check.due("20 odd by the row", z.cell(3, 4), 32);
        // A cell collides once in a tick: 03 becomes 14, and that does not become 25 at once.
        LatticeTunnel once = Tunnels.withBook(8, 6, "03>14;14>25;25>03");
        once.fill(9, 2, 2, 2, 2);
        once.run(1);
        Check.due("20 once", once.cell(2, 1) + once.cell(1, 3), 2 + 16);
    }

    private static void gustsFirst() {
        LatticeTunnel x = Tunnels.withBook(8, 4, "");
        x.inlet(0, 0, 0, 1, 1);
        x.drain(0, 0, 0, 0, 1, 1);
        x.run(1);
        Check.due("20 put in, then drained", x.particles(4), 0);
        Check.due("20 put in", x.gust(0, 7), 1);
        Check.due("20 drained", x.gust(1, 7), 1);
        LatticeTunnel y = Tunnels.withBook(8, 4, "");
        y.drain(0, 0, 0, 0, 1, 1);
        y.inlet(0, 0, 0, 1, 1);
        y.run(1);
        Check.due("20 drained, then put in", y.cell(1, 0), 1);
        Check.due("20 drained", y.gust(0, 7), 0);
        LatticeTunnel z = Tunnels.make(8, 4);
        z.put(0, 2, 3);
        z.inlet(2, 2, 0, 60, 1);
        z.run(1);
        Check.due("20 gusts before collisions", z.cell(0, 1), 2);
        LatticeTunnel v = Tunnels.make(8, 4);
        v.run(20);
        v.inlet(1, 1, 15, 7, 1);
        Check.due("20 remainder 5", v.gust(0, 8), 0);
        v.run(2);
        Check.due("20 remainder 0", v.gust(0, 8), 1);
    }

    private static void greatest() {
        LatticeTunnel x = Tunnels.ring(32, 16);
        x.fill(9, 0, 0, 31, 15);
        for (int i = 0; i < 6; i++) {
            x.drain(31, 15, 15, 10000, 1, 1);
        }
        x.run(1);
        // Each cell gives its pair to two neighbours; at the walls one half comes back.
        Check.due("20 all in the greatest tunnel", x.particles(4), 1024);
        Check.due("20 walls", x.momentum(1, 3), 0);
        LatticeTunnel y = Tunnels.make(32, 16);
        y.put(31, 14, 1);
        y.put(0, 15, 2);
        y.put(0, 15, 4);
        y.run(1);
        // Straight up at an end is not beyond it.
        Check.due("20 along the right end", y.cell(31, 13), 2);
        Check.due("20 along the left end", y.cell(0, 14), 4);
        Check.due("20 crossed", y.crossed(0) + y.crossed(31), 0);
        Check.due("20 off the last row", y.cell(0, 15), 2);
    }

    private static void promise21() {
        LatticeTunnel x = Tunnels.ring(6, 4);
        Check.holds("21 ring", x.reversible());
        x.set(0, 0);
        Check.holds("21 open", !x.reversible());
        x.set(0, 1);
        x.inlet(0, 0, 5000, 1, 1);
        Check.holds("21 gust", !x.reversible());
        x.drop(0);
        Check.holds("21 no gust", x.reversible());
        Tunnels.isNoChange("21 reversible", x, () -> x.reversible() ? 1 : 0);
        reversibleIs("", true);
        reversibleIs("03>14", false);
        reversibleIs("03>14;14>03", true);
        reversibleIs("03>14|25;14>03|14;25>25|03", true);
        // One to one in even cells alone, and in odd cells alone.
        reversibleIs("03>14|14;14>03|03;25>25|14", false);
        reversibleIs("03>14|14;14>03|03;25>14|25", false);
        reversibleIs("*0134>1245|0235", true);
        reversibleIs("024>135", false);
    }

    private static void reversibleIs(String book, boolean due) {
        LatticeTunnel x = Tunnels.withBook(6, 4, book);
        x.set(0, 1);
        Check.due("21 " + book, x.reversible() ? 1 : 0, due ? 1 : 0);
    }

    private static void promise22() {
        LatticeTunnel x = Tunnels.withBook(7, 5, "*03>14|25;*024>135;*0134>1245|0235");
        x.set(0, 1);
        x.set(2, 1);
        x.block(3, 2, 1, 3, 2);
        x.fill(45, 0, 0, 1, 4);
        x.fill(22, 4, 1, 6, 3);
        String start = Tunnels.picture(x);
        x.run(1);
        x.run(32);
        Check.holds("22 something moved", !Tunnels.picture(x).equals(start));
        Check.due("22 back", x.back(33), 0);
        Check.same("22 as before", Tunnels.picture(x), start);
        LatticeTunnel turning = Tunnels.withBook(7, 5, "013>125;125>013;*0123>0123");
        turning.set(0, 1);
        turning.set(1, 1);
        turning.fill(11, 0, 0, 6, 4);
        turning.fill(38, 2, 2, 5, 3);
        String before = Tunnels.picture(turning);
        turning.run(9);
        turning.back(9);
        Check.same("22 rules that are not their own mirror", Tunnels.picture(turning), before);
        backOffBodyAndWall();
        backBeyondTheRecord();
        Check.noArgument("22 ticks", () -> x.back(0));
        Check.noArgument("22 ticks", () -> x.back(41));
        Check.noState("22 time", () -> x.back(1));
        x.run(5);
        Check.noState("22 time", () -> x.back(6));
        Tunnels.unchanged("22 back", x, () -> x.back(6));
        Tunnels.isChange("22 back", x, () -> x.back(5));
        x.set(0, 0);
        Check.noState("22 open", () -> x.back(1));
        Check.noArgument("22 argument before state", () -> x.back(41));
    }

    private static void backOffBodyAndWall() {
        LatticeTunnel x = Tunnels.ring(8, 2);
        x.run(1);
        x.solid(1, 4, 0);
        x.put(3, 0, 3);
        x.put(6, 0, 4);
        x.put(1, 1, 0);
        // The first one came off the body, the second one off the wall above, the third one from the column before.
        Check.due("22 back", x.back(1), 0);
        Check.due("22 off the body", x.cell(3, 0), 1);
        Check.due("22 off the wall", x.cell(6, 0), 2);
        Check.due("22 from the column before", x.cell(0, 1), 1);
        Check.due("22 sum", x.body(1, 1), -4);
        Check.due("22 bodies", x.momentum(0, 2), -4);
        Check.due("22 walls along", x.momentum(0, 3), -2);
        Check.due("22 walls across", x.momentum(1, 3), -2);
        Check.due("22 record", x.count(6), 0);
        for (int c = 0; c < 8; c++) {
            Check.due("22 crossed", x.crossed(c), 0);
        }
        x.run(1);
        Check.due("22 crossed again", x.crossed(0), 1);
        Check.due("22 recorded again", x.recent(1, 0, 64), 4);
        Check.due("22 sum again", x.body(1, 1), 0);
    }

    private static void backBeyondTheRecord() {
        LatticeTunnel x = Tunnels.rattle();
        x.set(0, 1);
        Tunnels.run(x, 70);
        Check.due("22 record", x.count(6), 64);
        x.back(1);
        Check.due("22 record", x.count(6), 63);
        Check.due("22 recent", x.recent(1, 0, 1), 4);
        x.back(40);
        x.back(23);
        Check.due("22 record", x.count(6), 0);
        Check.due("22 recent", x.recent(1, 0, 64), 0);
        Check.due("22 sum", x.body(1, 1), 12);
        Check.due("22 back", x.back(2), 4);
        Check.due("22 no record", x.count(6), 0);
        Check.due("22 sum", x.body(1, 1), 8);
        x.run(1);
        Check.due("22 recorded", x.count(6), 1);
        Check.due("22 recent", x.recent(1, 0, 64), 4);
    }

    // ---- what there is

    private static void promise23() {
        LatticeTunnel x = Tunnels.make(6, 4);
        x.fill(63, 5, 3, 5, 3);
        x.solid(0, 0, 0);
        x.solid(5, 0, 3);
        Check.due("23 all", x.cell(5, 3), 63);
        Check.due("23 none", x.cell(1, 1), 0);
        Check.due("23 body 0", x.cell(0, 0), -1);
        Check.due("23 body 5", x.cell(0, 3), -6);
        Check.noIndex("23 column", () -> x.cell(6, 0));
        Check.noIndex("23 column", () -> x.cell(-1, 0));
        Check.noIndex("23 row", () -> x.cell(0, 4));
        Check.noIndex("23 row", () -> x.cell(0, -1));
        Tunnels.isNoChange("23 cell", x, () -> x.cell(0, 0));
    }

    private static void promise24() {
        LatticeTunnel x = Tunnels.make(6, 4);
        x.fill(7, 1, 1, 3, 2);
        x.solid(0, 5, 3);
        Check.due("24 all", x.density(0, 0, 5, 3), 18);
        Check.due("24 part", x.density(2, 2, 5, 3), 6);
        Check.due("24 one", x.density(1, 1, 1, 1), 3);
        Check.due("24 none", x.density(4, 0, 5, 3), 0);
        Check.noIndex("24 column", () -> x.density(6, 0, 6, 0));
        Check.noIndex("24 row", () -> x.density(0, -1, 1, 0));
        Check.noIndex("24 index before order", () -> x.density(1, 0, 0, 4));
        Check.noIndex("24 last column", () -> x.density(0, 0, 6, 0));
        Check.noArgument("24 columns", () -> x.density(1, 0, 0, 0));
        Check.noArgument("24 rows", () -> x.density(0, 1, 0, 0));
        Tunnels.isNoChange("24 density", x, () -> x.density(0, 0, 1, 1));
    }

    private static void promise25() {
        LatticeTunnel x = Tunnels.make(6, 4);
        int[] along = {2, 1, -1, -2, -1, 1};
        int[] across = {0, 1, 1, 0, -1, -1};
        for (int d = 0; d < 6; d++) {
            x.put(d, 1, d);
            Check.due("25 along", x.wind(0, d, 0, d, 3), along[d]);
            Check.due("25 across", x.wind(1, d, 0, d, 3), across[d]);
        }
        Check.due("25 all", x.wind(0, 0, 0, 5, 3), 0);
        Check.due("25 part", x.wind(0, 0, 1, 1, 1), 3);
        Check.due("25 part", x.wind(1, 1, 1, 2, 1), 2);
        Check.due("25 other rows", x.wind(0, 0, 2, 5, 3), 0);
        Check.noArgument("25 axis", () -> x.wind(2, 0, 0, 1, 1));
        Check.noArgument("25 axis", () -> x.wind(-1, 0, 0, 1, 1));
        Check.noArgument("25 columns", () -> x.wind(0, 1, 0, 0, 1));
        Check.noArgument("25 rows", () -> x.wind(0, 0, 1, 1, 0));
        Check.noIndex("25 index before axis", () -> x.wind(2, 0, 0, 6, 1));
        Check.noIndex("25 row", () -> x.wind(0, 0, 4, 1, 4));
        Tunnels.isNoChange("25 wind", x, () -> x.wind(0, 0, 0, 1, 1));
    }

    private static void crossedIs(LatticeTunnel x, int... due) {
        for (int c = 0; c < due.length; c++) {
            Check.due("26 crossed " + c, x.crossed(c), due[c]);
        }
    }

    private static void promise26() {
        LatticeTunnel x = Tunnels.withBook(5, 4, "");
        // In the even row 2: from 1 to the east and back from 3 to the west; north-west and south-west of 2.
        x.put(1, 2, 0);
        x.put(3, 2, 3);
        x.fill(4 + 16, 2, 2, 2, 2);
        // North-east and south-east of an even row stay in the column.
        x.fill(2 + 32, 3, 2, 3, 2);
        x.run(1);
        crossedIs(x, 0, 1 - 2, -1, 0, 0);
        x.empty(0, 0, 4, 3);
        crossedIs(x, 0, -1, -1, 0, 0);
        // In the odd row 1: north-east and south-east of 2; north-west and south-west stay in the column.
        x.fill(2 + 32 + 4 + 16, 2, 1, 2, 1);
        // Out at both ends: only the right one crosses.
        x.put(4, 1, 0);
        x.put(4, 1, 1);
        x.put(0, 1, 3);
        x.run(1);
        crossedIs(x, 0, 0, 2, 0, 2);
        x.run(1);
        x.build(5, 4);
        crossedIs(x, 0, 0, 0, 0, 0);
        x.set(0, 1);
        x.put(4, 1, 0);
        x.put(4, 1, 5);
        x.put(0, 1, 3);
        x.run(1);
        crossedIs(x, 0, 0, 0, 0, 1);
        x.back(1);
        crossedIs(x, 0, 0, 0, 0, 0);
        // One that bounces crosses nothing.
        x.empty(0, 0, 4, 3);
        x.solid(0, 3, 1);
        x.put(2, 1, 0);
        x.run(1);
        crossedIs(x, 0, 0, 0, 0, 0);
        Check.noIndex("26 column", () -> x.crossed(5));
        Check.noIndex("26 column", () -> x.crossed(-1));
        Tunnels.isNoChange("26 crossed", x, () -> x.crossed(0));
    }

    private static void promise27() {
        LatticeTunnel x = Tunnels.make(6, 4);
        x.inlet(0, 1, 0, 1, 1);
        x.drain(5, 1, 3, 2, 9, 4);
        int[] numbers = {2, 5, 1, 3, 2, 9, 4, 0, 0};
        for (int what = 0; what <= 8; what++) {
            Check.due("27 number " + what, x.gust(1, what), numbers[what]);
        }
        x.run(2);
        Check.due("27 blows", x.gust(1, 8), 1);
        Check.due("27 effect", x.gust(0, 7), 4);
        Check.noIndex("27 gust", () -> x.gust(2, 0));
        Check.noIndex("27 gust before what", () -> x.gust(-1, 9));
        Check.noArgument("27 what", () -> x.gust(0, 9));
        Check.noArgument("27 what", () -> x.gust(0, -1));
        Check.noIndex("27 none", () -> new LatticeTunnel().gust(0, 0));
        Tunnels.isNoChange("27 gust", x, () -> x.gust(0, 8));
    }

    private static void promise28() {
        LatticeTunnel x = Tunnels.rattle();
        x.solid(1, 6, 1);
        Tunnels.run(x, 3);
        int[] numbers = {2, 8, 0, 4, 6, 0, 1};
        for (int what = 0; what <= 6; what++) {
            Check.due("28 number " + what, x.body(1, what), numbers[what]);
        }
        int[] none = {0, 0, 0, -1, -1, -1, -1};
        for (int what = 0; what <= 6; what++) {
            Check.due("28 no cells " + what, x.body(5, what), none[what]);
        }
        x.clear(4, 0);
        x.clear(6, 1);
        Check.due("28 sum stays", x.body(1, 1), 8);
        Check.due("28 no cells now", x.body(1, 3), -1);
        LatticeTunnel widest = Tunnels.make(32, 16);
        widest.solid(0, 31, 15);
        for (int what = 3; what <= 6; what++) {
            Check.due("28 corner", widest.body(0, what), what < 5 ? 31 : 15);
        }
        LatticeTunnel corner = Tunnels.make(32, 16);
        corner.solid(0, 0, 0);
        for (int what = 3; what <= 6; what++) {
            Check.due("28 first corner", corner.body(0, what), 0);
            Check.due("28 no cells", corner.body(1, what), -1);
        }
        Check.noIndex("28 body", () -> x.body(6, 0));
        Check.noIndex("28 body before what", () -> x.body(-1, 7));
        Check.noArgument("28 what", () -> x.body(0, 7));
        Check.noArgument("28 what", () -> x.body(0, -1));
        Tunnels.isNoChange("28 body", x, () -> x.body(0, 0));
    }

    private static void promise29() {
        LatticeTunnel x = Tunnels.make(8, 6);
        x.solid(2, 3, 1);
        x.put(3, 2, 1);
        x.run(1);
        Check.due("29 sum", x.zero(2), 2);
        Check.due("29 along", x.body(2, 1), 0);
        Check.due("29 across", x.body(2, 2), 0);
        Check.due("29 record stays", x.recent(2, 1, 1), 2);
        Check.due("29 account stays", x.momentum(1, 2), 2);
        Check.due("29 again", x.zero(2), 0);
        LatticeTunnel y = Tunnels.rattle();
        Tunnels.run(y, 4);
        y.zero(0);
        Check.due("29 other body stays", y.body(1, 1), 8);
        Tunnels.isChange("29 zero", y, () -> y.zero(1));
        Check.noIndex("29 body", () -> y.zero(6));
        Check.noIndex("29 body", () -> y.zero(-1));
        Tunnels.unchanged("29 zero", y, () -> y.zero(6));
    }

    private static void promise30() {
        LatticeTunnel x = Tunnels.rattle();
        Check.due("30 nothing recorded", x.recent(1, 0, 64), 0);
        Tunnels.run(x, 5);
        int[] due = {4, 4, 8, 8, 12, 12, 12};
        for (int ticks = 1; ticks <= due.length; ticks++) {
            Check.due("30 latest " + ticks, x.recent(1, 0, ticks), due[ticks - 1]);
        }
        Check.due("30 other body", x.recent(0, 0, 2), -4);
        Check.due("30 across", x.recent(1, 1, 5), 0);
        Tunnels.run(x, 95);
        Check.due("30 all kept", x.recent(1, 0, 64), 128);
        Check.due("30 odd", x.recent(1, 0, 63), 124);
        x.clear(4, 0);
        Check.due("30 stays", x.recent(1, 0, 64), 128);
        Check.noArgument("30 axis", () -> x.recent(1, 2, 1));
        Check.noArgument("30 axis", () -> x.recent(1, -1, 1));
        Check.noArgument("30 ticks", () -> x.recent(1, 0, 0));
        Check.noArgument("30 ticks", () -> x.recent(1, 0, 65));
        Check.noIndex("30 body before axis", () -> x.recent(6, 2, 1));
        Check.noIndex("30 body", () -> x.recent(-1, 0, 1));
        Tunnels.isNoChange("30 recent", x, () -> x.recent(0, 0, 1));
    }

    private static void promise31() {
        LatticeTunnel x = Tunnels.rattle();
        Check.holds("31 nothing recorded", !x.steady(5, 1, 1000));
        x.run(1);
        Check.holds("31 one recorded", !x.steady(1, 1, 1000));
        x.run(1);
        Check.holds("31 differs by 4", !x.steady(1, 1, 3));
        Check.holds("31 differs by 4", x.steady(1, 1, 4));
        Check.holds("31 a body without cells", x.steady(5, 1, 0));
        x.run(1);
        Check.holds("31 three recorded", !x.steady(1, 2, 0));
        x.run(1);
        Check.holds("31 four recorded", x.steady(1, 2, 0));
        Tunnels.run(x, 60);
        Check.holds("31 longest", x.steady(1, 32, 0));
        x.clear(4, 0);
        x.run(2);
        Check.holds("31 less now", !x.steady(1, 2, 3));
        // The particle that goes up hits the body; the sums across differ, those along too.
        LatticeTunnel y = Tunnels.make(8, 6);
        y.solid(2, 3, 1);
        y.run(1);
        y.put(3, 2, 1);
        y.put(4, 2, 2);
        y.run(1);
        Check.due("31 along", y.recent(2, 0, 1), 0);
        Check.due("31 across", y.recent(2, 1, 1), 4);
        Check.holds("31 across counts", !y.steady(2, 1, 3));
        Check.holds("31 across counts", y.steady(2, 1, 4));
        Check.noArgument("31 ticks", () -> x.steady(0, 0, 0) ? 1 : 0);
        Check.noArgument("31 ticks", () -> x.steady(0, 33, 0) ? 1 : 0);
        Check.noArgument("31 tolerance", () -> x.steady(0, 1, -1) ? 1 : 0);
        Check.noArgument("31 tolerance", () -> x.steady(0, 1, 1001) ? 1 : 0);
        Check.noIndex("31 body", () -> x.steady(6, 0, 0) ? 1 : 0);
        Check.noIndex("31 body", () -> x.steady(-1, 1, 0) ? 1 : 0);
        Tunnels.isNoChange("31 steady", x, () -> x.steady(0, 1, 0) ? 1 : 0);
    }

    private static void promise32() {
        LatticeTunnel x = Tunnels.withBook(6, 4, "");
        x.put(5, 0, 0);
        x.fill(8, 0, 2, 3, 2);
        x.inlet(3, 3, 0, 1, 1);
        x.drain(2, 2, 2, 0, 60, 1);
        x.empty(3, 2, 3, 2);
        x.run(1);
        // Put 5; blown in 1; one emptied and one drained; out at the right (5, 0) and at the left (0, 2).
        int[] due = {5, 1, 2, 2, 2};
        for (int what = 0; what <= 4; what++) {
            Check.due("32 account " + what, x.particles(what), due[what]);
        }
        Check.noArgument("32 what", () -> x.particles(5));
        Check.noArgument("32 what", () -> x.particles(-1));
        Tunnels.isNoChange("32 particles", x, () -> x.particles(4));
        x.build(6, 4);
        for (int what = 0; what <= 4; what++) {
            Check.due("32 built anew " + what, x.particles(what), 0);
        }
    }

    private static void promise33() {
        LatticeTunnel x = Tunnels.withBook(6, 4, "");
        x.put(5, 0, 0);
        x.put(1, 0, 1);
        x.put(0, 2, 2);
        x.put(3, 1, 0);
        x.solid(0, 4, 1);
        x.put(2, 3, 3);
        x.fan(2, 3, 3, 0, 60, 1);
        x.put(5, 3, 1);
        x.empty(5, 3, 5, 3);
        x.put(3, 2, 4);
        x.drain(3, 2, 2, 0, 60, 1);
        x.run(1);
        // Put: 2 + 1 - 1 + 2 - 2 + 1 - 1 - 1; by gusts: the fan 4, the drain +1; the body 4; the wall above 2;
        // left: 2 - 1; present: (1, 0) with -1, (3, 1) with -2, (3, 3) with 2.
        int[] along = {1, 5, 4, 2, 1, -1};
        int[] across = {1 + 1 - 1, 1, 0, 2, 1, -1};
        for (int what = 0; what <= 5; what++) {
            Check.due("33 along " + what, x.momentum(0, what), along[what]);
            Check.due("33 across " + what, x.momentum(1, what), across[what]);
        }
        Check.noArgument("33 axis", () -> x.momentum(2, 0));
        Check.noArgument("33 axis", () -> x.momentum(-1, 0));
        Check.noArgument("33 what", () -> x.momentum(0, 6));
        Check.noArgument("33 what", () -> x.momentum(0, -1));
        Tunnels.isNoChange("33 momentum", x, () -> x.momentum(0, 5));
    }

    private static void promise34() {
        LatticeTunnel x = Tunnels.withBook(9, 5, "*03>14;*024>135;0>0");
        x.set(0, 1);
        x.set(2, 1);
        x.block(0, 0, 0, 1, 1);
        x.solid(1, 4, 4);
        x.inlet(2, 3, 0, 1, 1);
        x.run(40);
        x.run(39);
        Tunnels.type(x, "0>0;1>1");
        int[] due = {9, 5, 79, 1, 3, 5, 64, 4, 7, 1, 0, 1};
        for (int what = 0; what <= 11; what++) {
            Check.due("34 count " + what, x.count(what), due[what]);
        }
        Check.noArgument("34 what", () -> x.count(12));
        Check.noArgument("34 what", () -> x.count(-1));
        Tunnels.isNoChange("34 count", x, () -> x.count(0));
    }

    // ---- forecasts

    private static void promise35() {
        LatticeTunnel x = Tunnels.rattle();
        Check.due("35 one", x.ahead(1, 0, 1), 4);
        Check.due("35 two", x.ahead(1, 0, 2), 4);
        Check.due("35 three", x.ahead(1, 0, 3), 8);
        Check.due("35 other body", x.ahead(0, 0, 3), -4);
        Check.due("35 across", x.ahead(0, 1, 40), 0);
        Check.due("35 most", x.ahead(0, 0, 40), -80);
        x.run(3);
        Check.due("35 the next ones alone", x.ahead(1, 0, 1), 0);
        LatticeTunnel y = Tunnels.busy();
        Tunnels.isNoChange("35 ahead", y, () -> y.ahead(2, 0, 40));
        int before = y.body(2, 1);
        int found = y.ahead(2, 0, 13);
        y.run(13);
        Check.due("35 comes true", y.body(2, 1) - before, found);
        Check.noArgument("35 axis", () -> x.ahead(0, 2, 1));
        Check.noArgument("35 axis", () -> x.ahead(0, -1, 1));
        Check.noArgument("35 ticks", () -> x.ahead(0, 0, 0));
        Check.noArgument("35 ticks", () -> x.ahead(0, 0, 41));
        Check.noIndex("35 body", () -> x.ahead(6, 2, 1));
        Check.noIndex("35 body", () -> x.ahead(-1, 0, 1));
    }

    private static void cycleIs(String what, LatticeTunnel x, int ticks, int k, int p) {
        Check.due("36 k, " + what, x.cycle(ticks, 0), k);
        Check.due("36 p, " + what, x.cycle(ticks, 1), p);
    }

    private static void promise36() {
        cycleIs("nothing moves", new LatticeTunnel(), 2, 0, 2);
        cycleIs("rattle", Tunnels.rattle(), 60, 0, 2);
        // Round a ring of 5 columns: the same after 5 ticks, and after an even number after 10.
        LatticeTunnel odd = Tunnels.ring(5, 2);
        odd.put(0, 0, 0);
        cycleIs("odd ring", odd, 10, 0, 10);
        cycleIs("odd ring", odd, 60, 0, 10);
        cycleIs("odd ring", odd, 9, -1, -1);
        // A particle leaves in the third tick.
        LatticeTunnel out = Tunnels.make(6, 2);
        out.put(3, 0, 0);
        cycleIs("leaves", out, 60, 3, 2);
        cycleIs("leaves", out, 5, 3, 2);
        cycleIs("leaves", out, 4, -1, -1);
        // Blown in at times 2, 5, 8, ..., and bounced off the body and out: empty two ticks later.
        LatticeTunnel gust = Tunnels.make(6, 2);
        gust.solid(0, 1, 0);
        gust.inlet(0, 0, 2, 3, 1);
        cycleIs("gust", gust, 60, 2, 6);
        cycleIs("gust", gust, 8, 2, 6);
        cycleIs("gust", gust, 7, -1, -1);
        gust.run(1);
        cycleIs("gust a tick later", gust, 60, 1, 6);
        gust.run(39);
        cycleIs("gust begun", gust, 60, 0, 6);
        gust.fan(3, 1, 1, 0, 4, 1);
        cycleIs("two gusts", gust, 60, 0, 12);
        gust.fan(3, 1, 1, 0, 5, 1);
        cycleIs("three gusts", gust, 60, 0, 60);
        gust.fan(3, 1, 1, 0, 7, 1);
        cycleIs("four gusts", gust, 60, -1, -1);
        LatticeTunnel late = new LatticeTunnel();
        late.drain(3, 0, 1, 59, 1, 1);
        cycleIs("not begun", late, 60, -1, -1);
        late.run(1);
        cycleIs("begins at the end", late, 60, 58, 2);
        late.fan(2, 0, 0, 10000, 60, 1);
        late.drop(1);
        cycleIs("dropped", late, 60, 58, 2);
        LatticeTunnel y = Tunnels.busy();
        Tunnels.isNoChange("36 cycle", y, () -> y.cycle(60, 0));
        Check.noArgument("36 ticks", () -> y.cycle(1, 0));
        Check.noArgument("36 ticks", () -> y.cycle(61, 0));
        Check.noArgument("36 what", () -> y.cycle(2, 2));
        Check.noArgument("36 what", () -> y.cycle(2, -1));
    }

    private static void promise37() {
        LatticeTunnel x = Tunnels.rattle();
        Check.due("37 two and two", x.settles(1, 2, 0, 40), 4);
        Check.due("37 limit", x.settles(1, 2, 0, 4), 4);
        Check.due("37 below", x.settles(1, 2, 0, 3), -1);
        Check.due("37 never", x.settles(1, 1, 3, 40), -1);
        Check.due("37 one and one", x.settles(1, 1, 4, 40), 2);
        Check.due("37 three and three", x.settles(1, 3, 3, 40), -1);
        x.run(3);
        Check.due("37 later", x.settles(1, 2, 0, 40), 1);
        x.run(1);
        Check.due("37 now", x.settles(1, 2, 0, 0), 0);
        Tunnels.run(x, 30);
        Check.due("37 longest", x.settles(1, 32, 0, 40), 30);
        Check.due("37 most tolerant", x.settles(1, 32, 1000, 40), 30);
        LatticeTunnel y = Tunnels.busy();
        Tunnels.isNoChange("37 settles", y, () -> y.settles(2, 4, 2, 40));
        Check.noArgument("37 ticks", () -> x.settles(1, 0, 0, 40));
        Check.noArgument("37 ticks", () -> x.settles(1, 33, 0, 40));
        Check.noArgument("37 tolerance", () -> x.settles(1, 1, -1, 40));
        Check.noArgument("37 tolerance", () -> x.settles(1, 1, 1001, 40));
        Check.noArgument("37 limit", () -> x.settles(1, 1, 0, -1));
        Check.noArgument("37 limit", () -> x.settles(1, 1, 0, 41));
        Check.noIndex("37 body", () -> x.settles(6, 0, 0, 40));
        Check.noIndex("37 body", () -> x.settles(-1, 1, 0, 40));
    }

    private static void promise38() {
        LatticeTunnel x = Tunnels.make(8, 8);
        x.solid(0, 3, 4);
        Check.due("38 nothing to take", x.bestShift(0, 40), 0);
        // Goes up from (3, 6) into (3, 5): only a body one row further down takes it.
        x.put(3, 6, 1);
        Check.due("38 down", x.bestShift(0, 1), 1);
        // Goes up from (4, 4) into (3, 3): as good for a body one row further up.
        x.put(4, 4, 2);
        Check.due("38 two as good", x.bestShift(0, 1), -1);
        x.put(3, 3, 0);
        Check.due("38 no room for one", x.bestShift(0, 1), 1);
        x.empty(3, 3, 3, 3);
        x.solid(1, 3, 3);
        Check.due("38 a body where one would be", x.bestShift(0, 1), 1);
        // Goes down from (3, 1) into (3, 2): whoever is there takes less than nothing.
        LatticeTunnel y = Tunnels.make(8, 8);
        y.solid(0, 3, 2);
        y.put(3, 1, 4);
        Check.due("38 away", y.bestShift(0, 1), 1);
        y.solid(1, 3, 3);
        Check.due("38 further away", y.bestShift(0, 1), -2);
        y.solid(1, 3, 0);
        Check.due("38 further away", y.bestShift(0, 1), 2);
        LatticeTunnel z = Tunnels.make(8, 9);
        z.solid(0, 3, 4);
        z.put(3, 8, 1);
        Check.due("38 three down", z.bestShift(0, 1), 3);
        // The row above is taken by the particle itself, and there is none below.
        LatticeTunnel last = Tunnels.make(8, 6);
        last.solid(0, 3, 5);
        last.put(3, 4, 5);
        Check.due("38 within the tunnel", last.bestShift(0, 1), -2);
        Tunnels.isNoChange("38 bestShift", z, () -> z.bestShift(0, 40));
        Check.noState("38 no cells", () -> x.bestShift(5, 1));
        Check.noArgument("38 ticks before state", () -> x.bestShift(5, 0));
        Check.noArgument("38 ticks", () -> x.bestShift(0, 41));
        Check.noIndex("38 body before ticks", () -> x.bestShift(6, 0));
        Check.noIndex("38 body", () -> x.bestShift(-1, 1));
    }

    private static void promise39() {
        // A particle on its way up to a body, and a drain where it is now.
        LatticeTunnel x = Tunnels.make(8, 6);
        x.solid(2, 3, 1);
        x.put(3, 2, 1);
        x.drain(3, 2, 2, 0, 3, 1);
        Check.due("39 a tick later", x.bestStart(0, 2, 1), 1);
        Check.due("39 another body", x.bestStart(0, 1, 1), 0);
        // On its way down: the drain should blow now.
        LatticeTunnel y = Tunnels.make(8, 6);
        y.solid(2, 3, 2);
        y.put(3, 1, 4);
        y.drain(3, 1, 1, 0, 3, 1);
        Check.due("39 now", y.bestStart(0, 2, 1), 0);
        // With the start at 1 and a period of 4, the next blow at time 2 comes with a start of 2.
        LatticeTunnel z = Tunnels.make(8, 6);
        z.run(2);
        z.solid(2, 3, 2);
        z.put(3, 1, 4);
        z.drain(3, 1, 1, 1, 4, 1);
        Check.due("39 one later", z.bestStart(0, 2, 1), 1);
        Tunnels.isNoChange("39 bestStart", z, () -> z.bestStart(0, 2, 40));
        // A period later the drain would spare the particle, but that is too late by one.
        LatticeTunnel v = Tunnels.make(8, 6);
        v.solid(2, 3, 1);
        v.put(3, 2, 1);
        v.drain(3, 2, 2, 0, 1, 1);
        Check.due("39 less than the period", v.bestStart(0, 2, 1), 0);
        bestStartBeyondTheGreatest();
        Check.noIndex("39 gust", () -> z.bestStart(1, 2, 1));
        Check.noIndex("39 gust", () -> z.bestStart(-1, 2, 1));
        Check.noIndex("39 body before ticks", () -> z.bestStart(0, 6, 0));
        Check.noIndex("39 body", () -> z.bestStart(0, -1, 1));
        Check.noArgument("39 ticks", () -> z.bestStart(0, 0, 0));
        Check.noArgument("39 ticks", () -> z.bestStart(0, 0, 41));
    }

    private static void bestStartBeyondTheGreatest() {
        LatticeTunnel x = Tunnels.make(8, 6);
        Tunnels.run(x, 10000);
        x.solid(2, 3, 1);
        x.put(3, 2, 1);
        x.drain(3, 2, 2, 10000, 60, 60);
        Check.due("39 above 10000", x.bestStart(0, 2, 1), 1);
        Check.due("39 time", x.count(2), 10000);
    }

    // ---- undo, saving

    private static void promise40() {
        LatticeTunnel x = new LatticeTunnel();
        String[] pictures = new String[7];
        for (int i = 0; i < 7; i++) {
            pictures[i] = Tunnels.picture(x);
            x.put(i, 1, 0);
            x.save(0);
            Check.due("40 history", x.count(7), Math.min(4, i + 1));
        }
        x.type('0');
        for (int i = 3; i >= 0; i--) {
            Check.due("40 undo", x.undo(), i);
            Check.same("40 state", Tunnels.picture(x), pictures[3 + i]);
        }
        Check.noState("40 empty", () -> x.undo());
        Check.due("40 pad stays", x.count(8), 1);
        Tunnels.unchanged("40 undo", x, () -> x.undo());
        x.restore(0);
        Check.due("40 slots stay", x.cell(6, 1), 1);
        Check.due("40 undo", x.undo(), 0);
        // After an undo, changes are recorded on from there.
        x.put(0, 0, 1);
        x.put(0, 0, 2);
        x.undo();
        x.put(0, 0, 3);
        Check.due("40 history", x.count(7), 2);
        x.undo();
        Check.due("40 the first one stays", x.cell(0, 0), 2);
        LatticeTunnel y = Tunnels.busy();
        Tunnels.isChange("40 build and all that it drops", y, () -> y.build(32, 16));
    }

    private static void promise41() {
        LatticeTunnel x = Tunnels.busy();
        String first = Tunnels.picture(x);
        Check.due("41 save", x.save(0), 7);
        x.run(3);
        String second = Tunnels.picture(x);
        Check.due("41 save", x.save(1), 10);
        x.build(4, 2);
        x.restore(0);
        Check.same("41 slot 0", Tunnels.picture(x), first);
        x.restore(1);
        Check.same("41 slot 1", Tunnels.picture(x), second);
        x.save(0);
        x.build(4, 2);
        x.restore(0);
        Check.same("41 in place of what was there", Tunnels.picture(x), second);
        Tunnels.isNoChange("41 save", x, () -> x.save(1));
        Check.noIndex("41 slot", () -> x.save(2));
        Check.noIndex("41 slot", () -> x.save(-1));
    }

    private static void promise42() {
        LatticeTunnel x = Tunnels.busy();
        String first = Tunnels.picture(x);
        x.save(1);
        x.build(32, 16);
        x.set(1, 0);
        Tunnels.type(x, "03>14");
        x.rules();
        Tunnels.type(x, "0");
        Check.due("42 restore", x.restore(1), 7);
        Check.same("42 state", Tunnels.picture(x), first);
        Check.due("42 pad stays", x.count(8), 1);
        x.run(9);
        x.put(8, 0, 0);
        Check.due("42 the slot keeps it", x.restore(1), 7);
        Check.same("42 state", Tunnels.picture(x), first);
        x.run(2);
        Tunnels.isChange("42 restore", x, () -> x.restore(1));
        Check.noState("42 nothing saved", () -> x.restore(0));
        Tunnels.unchanged("42 restore", x, () -> x.restore(0));
        Check.noIndex("42 slot", () -> x.restore(2));
        Check.noIndex("42 slot", () -> x.restore(-1));
        LatticeTunnel z = Tunnels.rattle();
        z.run(4);
        z.save(0);
        z.build(8, 2);
        z.run(40);
        z.run(40);
        z.restore(0);
        Check.due("42 record", z.recent(1, 0, 64), 8);
        Check.due("42 record", z.recent(1, 0, 3), 4);
        LatticeTunnel y = new LatticeTunnel();
        y.save(0);
        y.run(5);
        Check.due("42 history", y.restore(0) * 10 + y.count(7), 2);
        y.undo();
        Check.due("42 undone", y.count(2), 5);
    }
}
