/**
 * The edges that the document names under "Gusts", "A tick" and "Ticks taken back", and of the promises 11 to 14, 20
 * to 22 and 26 to 34.
 */
final class EdgesOfTicks {
    private EdgesOfTicks() {
    }

    static void all() {
        gusts();
        ticks();
        takenBack();
        numbers();
    }

    // ---- helpers

    /** A tunnel of solid cells but for one, in which each direction becomes the opposite one in a tick. */
    private static LatticeTunnel chamber(int column, int row) {
        LatticeTunnel x = Tunnels.withBook(5, 4, "");
        x.set(0, 1);
        x.block(5, 0, 0, 4, 3);
        x.clear(column, row);
        return x;
    }

    private static int turnedRound(int state) {
        return (state >> 3 | state << 3) & 63;
    }

    /** One hit of 4 along the tunnel for body 2 in the first tick, and nothing later. */
    private static LatticeTunnel oneHit() {
        LatticeTunnel x = Tunnels.make(8, 2);
        x.solid(2, 4, 0);
        x.put(3, 0, 0);
        return x;
    }

    // ---- gusts

    private static void gusts() {
        sixGusts();
        gustNumbers();
        blowing();
        blowingBesideOthers();
        besideOtherParticles();
        latestStart();
        inlets();
        fans();
        drains();
        rowsOfGusts();
        oneAfterTheOther();
        effects();
        dropping();
    }

    private static int add(LatticeTunnel x, int kind, int column) {
        return kind == 0 ? x.inlet(0, 1, 0, 1, 1) : kind == 1 ? x.fan(column, 0, 1, 0, 1, 1)
                : x.drain(column, 0, 1, 0, 1, 1);
    }

    private static void sixGusts() {
        Check.says("There are at most 6 gusts.");
        for (int kind = 0; kind < 3; kind++) {
            LatticeTunnel x = new LatticeTunnel();
            for (int g = 0; g < 6; g++) {
                Check.due("number", add(x, (kind + g) % 3, g), g);
                Check.due("gusts", x.count(3), g + 1);
            }
            for (int more = 0; more < 3; more++) {
                int another = more;
                Check.noState("a seventh of kind " + more, () -> add(x, another, 0));
            }
            Check.due("gusts", x.count(3), 6);
            Check.due("one less", x.drop(kind), 5);
            Check.due("the sixth again", add(x, kind, 9), 5);
            Check.noState("a seventh again", () -> add(x, 0, 0));
            for (int left = 5; left >= 0; left--) {
                Check.due("dropped from the end", x.drop(left), left);
            }
            Check.due("the first again", add(x, kind, 3), 0);
        }
    }

    private static void gustNumbers() {
        Check.says("A gust has a kind, a column, a first and a last row, a start (0 to 10000), a period (1 to 60) and "
                + "a length (1 to its period).");
        int[][] times = {{0, 1, 1}, {10000, 60, 60}, {10000, 60, 1}, {0, 60, 60}, {9999, 2, 2}, {1, 59, 58}};
        for (int[] t : times) {
            LatticeTunnel x = Tunnels.make(32, 16);
            x.inlet(0, 15, t[0], t[1], t[2]);
            x.inlet(15, 15, t[0], t[1], t[2]);
            x.fan(31, 0, 0, t[0], t[1], t[2]);
            x.fan(0, 0, 15, t[0], t[1], t[2]);
            x.drain(31, 15, 15, t[0], t[1], t[2]);
            x.drain(0, 3, 4, t[0], t[1], t[2]);
            int[][] due = {{0, 0, 0, 15}, {0, 0, 15, 15}, {1, 31, 0, 0}, {1, 0, 0, 15}, {2, 31, 15, 15}, {2, 0, 3, 4}};
            for (int g = 0; g < 6; g++) {
                for (int what = 0; what < 4; what++) {
                    Check.due("gust " + g + " number " + what, x.gust(g, what), due[g][what]);
                }
                for (int what = 4; what < 7; what++) {
                    Check.due("gust " + g + " number " + what, x.gust(g, what), t[what - 4]);
                }
                Check.due("effect", x.gust(g, 7), 0);
                Check.due("blows", x.gust(g, 8), t[0] == 0 ? 1 : 0);
            }
        }
    }

    private static boolean blows(int time, int start, int period, int length) {
        return time >= start && (time - start) % period < length;
    }

    private static void blowing() {
        Check.says("It blows in a tick if the time is not less than its start, and the remainder of the time less its "
                + "start, divided by the period, is less than its length.");
        for (int start : new int[] {0, 1, 2, 7, 60}) {
            for (int period = 1; period <= 60; period++) {
                int[] lengths = {1, 2, period / 2, period - 1, period};
                for (int length : lengths) {
                    if (length >= 1 && length <= period) {
                        blowingIs(start, period, length);
                    }
                }
            }
        }
    }

    private static void blowingIs(int start, int period, int length) {
        LatticeTunnel x = Tunnels.make(4, 2);
        x.inlet(1, 1, start, period, length);
        int effect = 0;
        String what = start + ", " + period + ", " + length + " at ";
        for (int time = 0; time <= start + 2 * period + 1; time++) {
            boolean due = blows(time, start, period, length);
            Check.due("whether " + what + time, x.gust(0, 8), due ? 1 : 0);
            x.run(1);
            effect += due ? 1 : 0;
            Check.due("effect of " + what + time, x.gust(0, 7), effect);
        }
    }

    private static void blowingBesideOthers() {
        Check.says("8: whether it blows in the next tick (1 or 0)");
        LatticeTunnel x = Tunnels.make(8, 4);
        int[][] times = {{3, 7, 7}, {0, 5, 1}, {4, 9, 3}, {1, 2, 1}, {20, 60, 59}, {2, 6, 5}};
        for (int g = 0; g < 6; g++) {
            x.drain(g, 0, 3, times[g][0], times[g][1], times[g][2]);
        }
        for (int time = 0; time < 130; time++) {
            x.fill(2, 0, 1, 5, 1);
            int[] before = new int[6];
            for (int g = 0; g < 6; g++) {
                boolean due = blows(time, times[g][0], times[g][1], times[g][2]);
                Check.due("gust " + g + " at " + time, x.gust(g, 8), due ? 1 : 0);
                before[g] = x.gust(g, 7) + (due ? x.density(g, 0, g, 3) : 0);
            }
            x.run(1);
            for (int g = 0; g < 6; g++) {
                Check.due("effect of gust " + g + " at " + time, x.gust(g, 7), before[g]);
            }
        }
    }

    private static void besideOtherParticles() {
        Check.says("one to the west and none to the east.");
        // What is in other columns of the row is no matter.
        LatticeTunnel x = Tunnels.withBook(8, 4, "");
        x.fill(9, 0, 1, 7, 2);
        x.empty(3, 1, 3, 2);
        x.fill(8, 3, 1, 3, 2);
        x.fan(3, 0, 3, 0, 1, 1);
        x.inlet(0, 3, 0, 1, 1);
        x.run(1);
        for (int row = 1; row <= 2; row++) {
            for (int c = 0; c < 8; c++) {
                // All have gone on to the east and to the west, but for the one that came from column 3.
                int due = (c > 0 ? 1 : 0) + (c < 7 && c != 2 ? 8 : 0);
                Check.due("column " + c + " in row " + row, x.cell(c, row), due);
            }
        }
        Check.due("turned", x.gust(0, 7), 2);
        Check.due("blown into the rows without any", x.gust(1, 7), 2);
    }

    private static void latestStart() {
        LatticeTunnel x = Tunnels.make(4, 2);
        x.inlet(0, 0, 10000, 60, 1);
        x.inlet(1, 1, 9999, 60, 1);
        Tunnels.run(x, 9999);
        Check.due("a start of 10000 at 9999", x.gust(0, 8), 0);
        Check.due("a start of 9999 at 9999", x.gust(1, 8), 1);
        x.run(1);
        Check.due("a start of 10000 at 10000", x.gust(0, 8), 1);
        Check.due("a start of 9999 at 10000", x.gust(1, 8), 0);
        Check.due("nothing blown in before", x.gust(0, 7), 0);
        x.run(1);
        Check.due("blown in", x.gust(0, 7), 1);
        Check.due("no more", x.gust(0, 8), 0);
        Tunnels.run(x, 58);
        Check.due("a tick before the period is over", x.gust(0, 8), 0);
        x.run(1);
        Check.due("a period later", x.gust(0, 8), 1);
        Check.due("time", x.count(2), 10060);
    }

    private static void inlets() {
        Check.says("An inlet (kind 0; its column is 0) puts into each free cell of its rows a particle to the east, if "
                + "it has none.");
        for (int state = 0; state < 64; state++) {
            LatticeTunnel x = chamber(0, 2);
            if (state > 0) {
                x.fill(state, 0, 2, 0, 2);
            }
            // Rows 1 and 3 are solid.
            x.inlet(1, 3, 0, 1, 1);
            x.run(1);
            int put = (state & 1) == 0 ? 1 : 0;
            Check.due("into " + state, x.cell(0, 2), turnedRound(state | 1));
            Check.due("effect on " + state, x.gust(0, 7), put);
            Check.due("account of " + state, x.particles(1), put);
            Check.due("along " + state, x.momentum(0, 1), 2 * put);
            Check.due("across " + state, x.momentum(1, 1), 0);
            Check.due("put by hand " + state, x.particles(0), Integer.bitCount(state));
        }
        LatticeTunnel solid = Tunnels.make(4, 2);
        solid.block(0, 0, 0, 0, 1);
        solid.inlet(0, 1, 0, 1, 1);
        solid.run(40);
        Check.due("into solid cells", solid.gust(0, 7), 0);
    }

    private static void fans() {
        Check.says("A fan (kind 1) turns in each free cell of its column and rows a particle to the west round to the "
                + "east, if the cell has one to the west and none to the east.");
        for (int state = 0; state < 64; state++) {
            for (int column : new int[] {0, 2, 4}) {
                LatticeTunnel x = chamber(column, 1);
                if (state > 0) {
                    x.fill(state, column, 1, column, 1);
                }
                x.fan(column, 0, 3, 0, 1, 1);
                x.run(1);
                int turned = (state & 9) == 8 ? 1 : 0;
                Check.due("turned " + state, x.cell(column, 1), turnedRound(turned == 1 ? state - 8 + 1 : state));
                Check.due("effect on " + state, x.gust(0, 7), turned);
                Check.due("along " + state, x.momentum(0, 1), 4 * turned);
                Check.due("across " + state, x.momentum(1, 1), 0);
                Check.due("none put in or taken out " + state, x.particles(1) + x.particles(2), 0);
            }
        }
    }

    private static void drains() {
        Check.says("A drain (kind 2) takes all particles out of the free cells of its column and rows.");
        for (int state = 0; state < 64; state++) {
            for (int column : new int[] {0, 2, 4}) {
                LatticeTunnel x = chamber(column, 3);
                if (state > 0) {
                    x.fill(state, column, 3, column, 3);
                }
                int along = x.momentum(0, 5);
                int across = x.momentum(1, 5);
                x.drain(column, 0, 3, 0, 1, 1);
                x.run(1);
                Check.due("left of " + state, x.cell(column, 3), 0);
                Check.due("effect on " + state, x.gust(0, 7), Integer.bitCount(state));
                Check.due("account of " + state, x.particles(2), Integer.bitCount(state));
                Check.due("along " + state, x.momentum(0, 1), -along);
                Check.due("across " + state, x.momentum(1, 1), -across);
                Check.due("solid cells stay", x.count(5), 19);
            }
        }
    }

    private static void rowsOfGusts() {
        Check.says("- `row`: its first row - `lastRow`: its last row");
        for (int first = 0; first < 4; first++) {
            for (int last = first; last < 4; last++) {
                LatticeTunnel in = Tunnels.withBook(4, 4, "");
                in.inlet(first, last, 0, 1, 1);
                in.run(1);
                LatticeTunnel fan = Tunnels.withBook(4, 4, "");
                fan.fill(8, 1, 0, 2, 3);
                fan.fan(2, first, last, 0, 1, 1);
                fan.run(1);
                LatticeTunnel out = Tunnels.withBook(4, 4, "");
                out.fill(1, 1, 0, 2, 3);
                out.drain(2, first, last, 0, 1, 1);
                out.run(1);
                for (int r = 0; r < 4; r++) {
                    boolean there = r >= first && r <= last;
                    Check.due("blown in", in.cell(1, r), there ? 1 : 0);
                    Check.due("turned", fan.cell(3, r), there ? 1 : 0);
                    Check.due("not turned", fan.cell(1, r), there ? 0 : 8);
                    Check.due("beside the fan", fan.cell(0, r), 8);
                    Check.due("drained", out.cell(3, r), there ? 0 : 1);
                    Check.due("beside the drain", out.cell(2, r), 1);
                }
            }
        }
    }

    /** All rows of three gusts on one cell of column 0, with each state of it. */
    private static void oneAfterTheOther() {
        Check.says("The gusts that blow do so, one after the other, by their numbers.");
        for (int kinds = 0; kinds < 27; kinds++) {
            int[] row = {kinds % 3, kinds / 3 % 3, kinds / 9};
            for (int state = 0; state < 64; state += 3) {
                LatticeTunnel x = chamber(0, 1);
                if (state > 0) {
                    x.fill(state, 0, 1, 0, 1);
                }
                // One before them, so that their numbers are other ones then.
                x.drain(0, 1, 1, 0, 1, 1);
                for (int kind : row) {
                    add(x, kind, 0);
                }
                x.drop(0);
                x.run(1);
                int[] due = afterGusts(state, row);
                Check.due("order " + kinds + " on " + state, x.cell(0, 1), turnedRound(due[3]));
                for (int g = 0; g < 3; g++) {
                    Check.due("effect of " + g + " in " + kinds + " on " + state, x.gust(g, 7), due[g]);
                }
            }
        }
    }

    private static int[] afterGusts(int state, int[] kinds) {
        int[] result = new int[4];
        int now = state;
        for (int g = 0; g < 3; g++) {
            if (kinds[g] == 0 && (now & 1) == 0) {
                now |= 1;
                result[g] = 1;
            } else if (kinds[g] == 1 && (now & 9) == 8) {
                now = now - 8 + 1;
                result[g] = 1;
            } else if (kinds[g] == 2) {
                result[g] = Integer.bitCount(now);
                now = 0;
            }
        }
        result[3] = now;
        return result;
    }

    private static void effects() {
        Check.says("The effect of a gust is how many particles it has put in, turned round or taken out so far.");
        LatticeTunnel x = Tunnels.withBook(4, 16, "");
        x.inlet(0, 15, 0, 2, 1);
        x.drain(3, 0, 15, 0, 1, 1);
        Tunnels.run(x, 40);
        // 16 in every even tick; they are in column 3 as the third tick after begins.
        Check.due("put in", x.gust(0, 7), 16 * 20);
        Check.due("taken out", x.gust(1, 7), 16 * 19);
        int ahead = x.ahead(0, 0, 40);
        Check.due("no forecast blows", x.gust(0, 7) + ahead, 16 * 20);
        x.cycle(60, 0);
        x.bestStart(0, 0, 40);
        Check.due("no forecast blows", x.gust(0, 7), 16 * 20);
        x.save(0);
        x.run(2);
        Check.due("more", x.gust(0, 7), 16 * 21);
        x.undo();
        Check.due("undone", x.gust(0, 7), 16 * 20);
        x.run(4);
        x.restore(0);
        Check.due("restored", x.gust(0, 7), 16 * 20);
        x.inlet(0, 0, 0, 1, 1);
        Check.due("the others' effects stay", x.gust(0, 7), 16 * 20);
        Check.due("a new one has none", x.gust(2, 7), 0);
    }

    private static void dropping() {
        Check.says("Removes a gust; the numbers of the later ones decrease by 1.");
        for (int dropped = 0; dropped < 6; dropped++) {
            LatticeTunnel x = Tunnels.make(8, 4);
            for (int g = 0; g < 6; g++) {
                x.drain(g, 0, 3, g, 10 + g, 1 + g);
            }
            x.fill(1, 0, 0, 5, 3);
            x.run(1);
            int[] effects = new int[6];
            for (int g = 0; g < 6; g++) {
                effects[g] = x.gust(g, 7);
            }
            Check.due("then", x.drop(dropped), 5);
            for (int g = 0; g < 5; g++) {
                int was = g < dropped ? g : g + 1;
                Check.due("column of " + g, x.gust(g, 1), was);
                Check.due("start of " + g, x.gust(g, 4), was);
                Check.due("period of " + g, x.gust(g, 5), 10 + was);
                Check.due("length of " + g, x.gust(g, 6), 1 + was);
                Check.due("effect of " + g, x.gust(g, 7), effects[was]);
            }
            Check.noIndex("no sixth", () -> x.gust(5, 0));
            Check.noIndex("no sixth", () -> x.drop(5));
            x.undo();
            Check.due("undone", x.count(3), 6);
            Check.due("the last one", x.gust(5, 5), 15);
        }
    }

    // ---- a tick

    private static void ticks() {
        atOnce();
        manyAtWalls();
        endsBeforeSolids();
        allBodiesAtOnce();
        record();
        crossings();
        time();
    }

    private static void atOnce() {
        Check.says("All particles move at once.");
        for (int d = 0; d < 3; d++) {
            for (int row = 2; row <= 3; row++) {
                LatticeTunnel probe = Tunnels.make(8, 6);
                probe.put(3, row, d);
                probe.run(1);
                int there = 0;
                while (probe.cell(there % 8, there / 8) == 0) {
                    there++;
                }
                LatticeTunnel x = Tunnels.make(8, 6);
                x.put(3, row, d);
                x.put(there % 8, there / 8, d + 3);
                x.run(1);
                Check.due("one passes the other to " + d, x.cell(there % 8, there / 8), 1 << d);
                Check.due("and the other one", x.cell(3, row), 8 << d);
                for (int c = 0; c < 8; c++) {
                    Check.due("crossed there and back", x.crossed(c), 0);
                }
            }
        }
        LatticeTunnel full = Tunnels.ring(32, 16);
        full.fill(63, 0, 0, 31, 15);
        full.run(40);
        for (int c = 0; c < 32; c++) {
            Check.due("full stays full", full.density(c, 0, c, 15), 16 * 6);
            Check.due("as many there as back", full.crossed(c), 0);
        }
        Check.due("walls above and below", full.momentum(1, 3), 0);
    }

    private static void manyAtWalls() {
        Check.says("The wall takes the momentum that the particle had, less that which it has now.");
        for (int number = 1; number <= 32; number++) {
            for (int smooth = 0; smooth <= 1; smooth++) {
                LatticeTunnel x = Tunnels.make(32, 16);
                x.set(1, smooth);
                x.set(2, smooth);
                x.fill(2, 0, 0, number - 1, 0);
                x.run(1);
                Check.due(number + " above, along", x.momentum(0, 3), smooth == 1 ? 0 : 2 * number);
                Check.due(number + " above, across", x.momentum(1, 3), 2 * number);
                Check.due(number + " above, there", x.momentum(1, 5), -number);
                x.build(32, 16);
                x.fill(16, 32 - number, 15, 31, 15);
                Check.due(number + " below, there before", x.momentum(0, 5), -number);
                x.run(1);
                Check.due(number + " below, along", x.momentum(0, 3), smooth == 1 ? 0 : -2 * number);
                Check.due(number + " below, across", x.momentum(1, 3), -2 * number);
                Check.due(number + " below, there", x.momentum(1, 5), number);
                Check.due(number + " below, there", x.momentum(0, 5), smooth == 1 ? -number : number);
                Check.due("none left", x.particles(4), number);
            }
        }
    }

    private static void endsBeforeSolids() {
        Check.says("Otherwise, if that would be beyond an open end, the particle leaves the tunnel there, with its "
                + "momentum.");
        Check.says("Otherwise, if that cell is solid, the particle stays in its cell, its direction becomes the "
                + "opposite one, and the body takes the momentum that it had, less that which it has now.");
        // Cell and direction beyond an end, and the cell at the other end.
        int[][] all = {{7, 2, 0, 0, 2}, {7, 3, 0, 0, 3}, {0, 2, 3, 7, 2}, {0, 3, 3, 7, 3}, {7, 3, 1, 0, 2},
            {7, 3, 5, 0, 4}, {0, 2, 2, 7, 1}, {0, 2, 4, 7, 3}};
        for (int[] a : all) {
            for (int ends = 0; ends <= 1; ends++) {
                LatticeTunnel x = Tunnels.make(8, 6);
                x.set(0, ends);
                x.solid(3, a[3], a[4]);
                x.put(a[0], a[1], a[2]);
                x.run(1);
                Check.due("left", x.particles(3), 1 - ends);
                Check.due("stays", x.cell(a[0], a[1]), ends == 1 ? 1 << (a[2] + 3) % 6 : 0);
                Check.due("left along", x.momentum(0, 4), ends == 1 ? 0 : Tunnels.ALONG[a[2]]);
                Check.due("left across", x.momentum(1, 4), ends == 1 ? 0 : Tunnels.ACROSS[a[2]]);
                Check.due("body along", x.body(3, 1), 2 * ends * Tunnels.ALONG[a[2]]);
                Check.due("body across", x.body(3, 2), 2 * ends * Tunnels.ACROSS[a[2]]);
                Check.due("crossed", x.crossed(7), ends == 0 && a[0] == 7 ? 1 : 0);
            }
        }
        // The wall comes first: what is beyond it, is beyond no end.
        for (int ends = 0; ends <= 1; ends++) {
            LatticeTunnel x = Tunnels.make(8, 6);
            x.set(0, ends);
            x.block(3, 7, 0, 7, 5);
            x.put(0, 0, 2);
            x.run(1);
            Check.due("in the corner", x.cell(0, 0), 32);
            Check.due("no body takes it", x.momentum(0, 2), 0);
            Check.due("the wall takes it", x.momentum(0, 3), -2);
        }
    }

    private static void allBodiesAtOnce() {
        LatticeTunnel x = Tunnels.withBook(8, 6, "");
        for (int b = 0; b < 6; b++) {
            x.solid(b, Tunnels.AROUND[b][0], Tunnels.AROUND[b][1]);
        }
        x.fill(63, 3, 2, 3, 2);
        x.run(1);
        for (int b = 0; b < 6; b++) {
            Check.due("body " + b + " along", x.body(b, 1), 2 * Tunnels.ALONG[b]);
            Check.due("body " + b + " across", x.body(b, 2), 2 * Tunnels.ACROSS[b]);
            Check.due("body " + b + " latest along", x.recent(b, 0, 1), 2 * Tunnels.ALONG[b]);
            Check.due("body " + b + " latest across", x.recent(b, 1, 1), 2 * Tunnels.ACROSS[b]);
        }
        Check.due("all along", x.momentum(0, 2), 0);
        Check.due("all across", x.momentum(1, 2), 0);
        Check.due("all there", x.cell(3, 2), 63);
        LatticeTunnel one = Tunnels.withBook(8, 6, "");
        one.block(4, 0, 0, 7, 5);
        one.clear(3, 2);
        one.fill(63 - 8, 3, 2, 3, 2);
        one.run(1);
        Check.due("one body on all sides", one.body(4, 1), 4);
        one.run(1);
        Check.due("one body on all sides, and back", one.body(4, 1), 0);
    }

    private static void record() {
        Check.says("What each body has taken in a tick is recorded, for each axis; of the latest 64 ticks the record "
                + "is kept.");
        LatticeTunnel x = oneHit();
        for (int n = 1; n <= 130; n++) {
            x.run(1);
            Check.due("recorded ticks after " + n, x.count(6), Math.min(n, 64));
            Check.due("all of them after " + n, x.recent(2, 0, 64), n <= 64 ? 4 : 0);
            if (n <= 64) {
                Check.due("with the first one after " + n, x.recent(2, 0, n), 4);
            }
            if (n > 1 && n <= 65) {
                Check.due("but for the first one after " + n, x.recent(2, 0, n - 1), 0);
            }
            Check.due("the other axis", x.recent(2, 1, 64), 0);
            Check.due("the other body", x.recent(1, 0, 64), 0);
            Check.due("the sum stays", x.body(2, 1), 4);
        }
        LatticeTunnel y = oneHit();
        y.run(40);
        y.run(24);
        Check.due("64 in two calls", y.recent(2, 0, 64), 4);
        y.run(1);
        Check.due("65 in three calls", y.recent(2, 0, 64), 0);
    }

    private static void crossings() {
        Check.says("A column has been crossed in a tick as often as particles went from it to the next column, less as "
                + "often as they came back from there; the next column of the last one is the first one in a ring; "
                + "with open ends it is crossed by those that leave at the right end.");
        for (int ends = 0; ends <= 1; ends++) {
            LatticeTunnel x = Tunnels.withBook(4, 16, "");
            x.set(0, ends);
            x.fill(1 + 2 + 32, 3, 0, 3, 15);
            x.fill(4 + 8 + 16, 0, 0, 0, 15);
            x.run(1);
            // To the right 16 go east, and of the odd rows 8 north-east and 7 south-east, as the last one has a wall.
            // To the left as many west, and of the even rows 7 north-west, as the first one has a wall, and 8
            // south-west: in a ring they come back from the first column.
            Check.due("the last column, ends " + ends, x.crossed(3), ends == 1 ? 31 - 31 : 31);
            for (int c = 0; c < 3; c++) {
                Check.due("column " + c, x.crossed(c), 0);
            }
            Check.due("left", x.particles(3), ends == 1 ? 0 : 62);
        }
        Check.says("0 if no tick has gone by since the tunnel was built, or since a tick was taken back.");
        LatticeTunnel x = Tunnels.ring(5, 2);
        x.put(1, 0, 0);
        for (int time = 0; time < 12; time++) {
            for (int c = 0; c < 5; c++) {
                Check.due("latest tick at " + time, x.crossed(c), time > 0 && c == time % 5 ? 1 : 0);
            }
            x.run(1);
        }
        x.run(3);
        Check.due("the last one of three", x.crossed(0), 1);
        Check.due("not the one before", x.crossed(4), 0);
        x.back(2);
        for (int c = 0; c < 5; c++) {
            Check.due("taken back", x.crossed(c), 0);
        }
        x.undo();
        Check.due("that undone", x.crossed(0), 1);
        x.build(5, 2);
        Check.due("built anew", x.crossed(0), 0);
        x.undo();
        Check.due("that undone", x.crossed(0), 1);
        x.empty(0, 0, 4, 1);
        x.block(0, 0, 0, 4, 1);
        Check.due("solid cells are no tick", x.crossed(0), 1);
        x.run(1);
        Check.due("nothing crosses", x.crossed(0), 0);
    }

    private static void time() {
        Check.says("The time increases by 1.");
        for (int ticks = 1; ticks <= 40; ticks++) {
            LatticeTunnel x = Tunnels.make(4, 2);
            Check.due("ticks", x.run(ticks), ticks);
            Check.due("time", x.count(2), ticks);
            Check.due("recorded", x.count(6), ticks);
            Check.due("one state", x.count(7), 2);
            x.undo();
            Check.due("undone", x.count(2), 0);
        }
        // As many calls as an object is used for.
        LatticeTunnel x = new LatticeTunnel();
        x.solid(0, 2, 0);
        x.solid(1, 4, 0);
        x.put(3, 0, 0);
        for (int call = 1; call <= 506; call++) {
            Check.due("time", x.run(40), 40 * call);
        }
        Check.due("recent", x.recent(1, 0, 64), 128);
        Check.due("sum", x.body(1, 1), 2 * 40 * 506);
        Check.due("sum", x.body(0, 1), -2 * 40 * 506);
    }

    // ---- ticks taken back

    private static void takenBack() {
        reversible();
        asTheyAreNow();
        sumsBack();
        recordBack();
        allTheWayBack();
    }

    private static void reversible() {
        Check.says("The tunnel is reversible if it is a ring, has no gusts, and each of the 64 states of a cell comes "
                + "of exactly one state by the rules, in even and in odd cells.");
        // Each way in which the three states of four particles without momentum can become one another.
        String[] states = {"0134", "1245", "0235"};
        for (int way = 0; way < 729; way++) {
            StringBuilder book = new StringBuilder();
            int even = 0;
            int odd = 0;
            int rest = way;
            for (int i = 0; i < 3; i++) {
                book.append(i == 0 ? "" : ";").append(states[i]).append('>').append(states[rest % 3]);
                book.append('|').append(states[rest / 3 % 3]);
                even |= 1 << rest % 3;
                odd |= 1 << rest / 3 % 3;
                rest /= 9;
            }
            LatticeTunnel x = Tunnels.withBook(4, 2, book.toString());
            Check.due("open, with " + book, x.reversible() ? 1 : 0, 0);
            x.set(0, 1);
            Check.due("a ring, with " + book, x.reversible() ? 1 : 0, even == 7 && odd == 7 ? 1 : 0);
        }
        LatticeTunnel x = Tunnels.ring(4, 2);
        for (int kind = 0; kind < 3; kind++) {
            add(x, kind, 1);
            Check.due("with a gust of kind " + kind, x.reversible() ? 1 : 0, 0);
            x.drop(0);
            Check.due("without it", x.reversible() ? 1 : 0, 1);
        }
        x.block(0, 0, 0, 3, 1);
        Check.due("all solid", x.reversible() ? 1 : 0, 1);
        Check.due("at the time 0", x.count(2), 0);
    }

    private static void asTheyAreNow() {
        Check.says("Then a tick can be taken back: the particles become those of which a tick, at the time that is "
                + "less by 1, makes the present ones, with the bodies, walls and rules as they are now.");
        // It came off a body that is no more: so it has come from where that was.
        LatticeTunnel body = Tunnels.ring(8, 2);
        body.solid(2, 4, 0);
        body.put(3, 0, 0);
        body.run(1);
        body.clear(4, 0);
        body.back(1);
        Check.due("no body now", body.cell(4, 0), 8);
        Check.due("nothing where it was", body.cell(3, 0), 0);
        Check.due("the sum stays", body.body(2, 1), 4);
        Check.due("the record goes", body.recent(2, 0, 64), 0);
        // It went its way, and now there is a body where it came from.
        LatticeTunnel later = Tunnels.ring(8, 2);
        later.put(3, 0, 0);
        later.run(1);
        later.solid(2, 3, 0);
        later.back(1);
        Check.due("off the body", later.cell(4, 0), 8);
        Check.due("the sum is less by what it gave", later.body(2, 1), 4);
        Check.due("bodies", later.momentum(0, 2), 4);
        // A rough wall has become a smooth one.
        LatticeTunnel wall = Tunnels.ring(8, 2);
        wall.put(3, 0, 1);
        wall.run(1);
        wall.set(1, 1);
        wall.back(1);
        Check.due("off the smooth wall", wall.cell(3, 0), 4);
        Check.due("walls along", wall.momentum(0, 3), 2);
        Check.due("walls across", wall.momentum(1, 3), 0);
        LatticeTunnel below = Tunnels.ring(8, 3);
        below.set(2, 1);
        below.put(3, 2, 4);
        below.run(1);
        Check.due("off the smooth wall below", below.cell(3, 2), 4);
        below.set(2, 0);
        below.back(1);
        Check.due("off the rough wall below", below.cell(3, 2), 32);
        Check.due("walls along", below.momentum(0, 3), -2);
        Check.due("walls across", below.momentum(1, 3), 0);
        // Another book: 03 became 14 in an even cell, and 14 comes of nothing else now.
        LatticeTunnel rules = Tunnels.ring(8, 4);
        rules.fill(9, 3, 1, 3, 1);
        rules.run(1);
        rules.rules();
        rules.back(1);
        Check.due("by no rules", rules.cell(3, 1), 18);
        // In odd cells of the time before: even ones of now.
        LatticeTunnel odd = Tunnels.ring(8, 4);
        odd.run(1);
        odd.fill(18, 3, 1, 3, 1);
        odd.run(1);
        odd.back(1);
        Check.due("by the rules of odd cells", odd.cell(3, 1), 18);
        odd.back(1);
        Check.due("time", odd.count(2), 0);
    }

    private static void sumsBack() {
        Check.says("The time decreases by 1, the sums of the bodies, and the accounts of the momentum that bodies and "
                + "walls have taken, are less by what such a tick gives them");
        LatticeTunnel x = Tunnels.ring(9, 5);
        x.set(2, 1);
        x.block(1, 4, 1, 5, 2);
        x.solid(3, 2, 3);
        x.fill(27, 0, 0, 1, 4);
        x.fill(50, 7, 1, 8, 3);
        int[][] before = new int[41][];
        for (int time = 0; time <= 40; time++) {
            before[time] = sums(x);
            if (time < 40) {
                x.run(1);
            }
        }
        for (int time = 39; time >= 0; time--) {
            Check.due("time", x.back(1), time);
            same("at " + time, sums(x), before[time]);
        }
        x.run(40);
        x.zero(1);
        int along = x.momentum(0, 2);
        Check.due("back after zero()", x.back(40), 0);
        Check.due("less than 0", x.body(1, 1), before[0][2] - before[40][2]);
        Check.due("across", x.body(1, 2), before[0][3] - before[40][3]);
        Check.due("the account", x.momentum(0, 2), along + before[0][0] - before[40][0]);
    }

    private static int[] sums(LatticeTunnel x) {
        return new int[] {x.momentum(0, 2), x.momentum(1, 2), x.body(1, 1), x.body(1, 2), x.body(3, 1), x.body(3, 2),
            x.momentum(0, 3), x.momentum(1, 3), x.momentum(0, 5), x.momentum(1, 5), x.particles(4)};
    }

    private static void same(String what, int[] got, int[] want) {
        for (int i = 0; i < want.length; i++) {
            Check.due(what + " number " + i, got[i], want[i]);
        }
    }

    private static void recordBack() {
        Check.says("the latest recorded tick is removed from the record (if there is one), and no column has been "
                + "crossed.");
        for (int n : new int[] {1, 2, 40, 63, 64, 65, 66, 80}) {
            LatticeTunnel x = Tunnels.rattle();
            x.set(0, 1);
            Tunnels.run(x, n);
            int size = Math.min(n, 64);
            for (int back = 1; back <= n; back++) {
                x.back(1);
                size = Math.max(0, size - 1);
                Check.due("recorded after " + n + " and " + back + " back", x.count(6), size);
                // Body 1 takes 4 in ticks that begin at an even time.
                int due = 0;
                for (int i = 1; i <= size; i++) {
                    due += (n - back - i) % 2 == 0 ? 4 : 0;
                }
                Check.due("all of them after " + n + " and " + back + " back", x.recent(1, 0, 64), due);
                Check.due("crossed", x.crossed(3), 0);
            }
            Check.noState("beyond the time 0", () -> x.back(1));
            x.run(2);
            Check.due("recorded anew", x.count(6), 2);
            Check.due("taken anew", x.recent(1, 0, 64), 4);
            Check.due("the sum", x.body(1, 1), 4);
        }
    }

    private static void allTheWayBack() {
        Check.says("or the time is less than ticks");
        for (int ticks = 1; ticks <= 40; ticks++) {
            LatticeTunnel x = Tunnels.ring(6, 3);
            x.fill(11, 0, 0, 2, 2);
            String start = Tunnels.picture(x);
            int back = ticks;
            x.run(ticks);
            if (ticks < 40) {
                Check.noState("one more", () -> x.back(back + 1));
            }
            String there = Tunnels.picture(x);
            Check.due("all of them", x.back(ticks), 0);
            Check.same("as it was", Tunnels.picture(x), start);
            Check.due("one state", x.undo(), 4 - 1);
            Check.same("undone", Tunnels.picture(x), there);
            x.back(ticks);
            Check.noState("the time is 0", () -> x.back(1));
        }
        // Bodies and walls give back at corners too, in narrow and wide, low and high rings.
        for (int width : new int[] {4, 5, 32}) {
            for (int height : new int[] {2, 3, 16}) {
                for (int walls = 0; walls < 4; walls++) {
                    LatticeTunnel x = Tunnels.withBook(width, height, "*03>14|25;*024>135;013>125;125>013");
                    x.set(0, 1);
                    x.set(1, walls & 1);
                    x.set(2, walls >> 1);
                    x.solid(0, 0, 0);
                    x.solid(1, width - 1, height - 1);
                    x.fill(27, 1, 0, 2, height - 1);
                    x.fill(37, 0, height - 1, 0, height - 1);
                    String start = Tunnels.picture(x);
                    Tunnels.run(x, 64);
                    x.back(24);
                    x.back(40);
                    Check.same(width + " by " + height + " walls " + walls, Tunnels.picture(x), start);
                }
            }
        }
    }

    // ---- promises 27 to 34

    private static void numbers() {
        bodies();
        zeroing();
        fewerRecorded();
        steadyTicks();
        steadyTolerance();
        accounts();
        counts();
    }

    private static void bodies() {
        Check.says("Its sums are what it has taken since the tunnel was built, or since zero() was called for it.");
        LatticeTunnel x = oneHit();
        x.run(5);
        Check.due("taken", x.body(2, 1), 4);
        x.shift(2, 1, 1);
        Check.due("shifted", x.body(2, 1), 4);
        x.clear(5, 1);
        Check.due("without cells", x.body(2, 1), 4);
        Check.due("latest", x.recent(2, 0, 5), 4);
        x.solid(2, 0, 0);
        Check.due("with another cell", x.body(2, 1), 4);
        x.build(8, 2);
        Check.due("built anew", x.body(2, 1), 0);
        Check.says("NONE for 3 to 6 if it has no cells.");
        for (int what = 3; what <= 6; what++) {
            Check.due("no cells", x.body(2, what), LatticeTunnel.NONE);
        }
        LatticeTunnel y = Tunnels.make(32, 16);
        for (int c = 0; c < 32; c += 31) {
            for (int r = 0; r < 16; r += 15) {
                y.solid(4, c, r);
                Check.due("first column", y.body(4, 3), 0);
                Check.due("last column", y.body(4, 4), c);
                Check.due("first row", y.body(4, 5), 0);
                Check.due("last row", y.body(4, 6), Math.max(r, c > 0 ? 15 : r));
            }
        }
        y.clear(0, 0);
        y.clear(0, 15);
        Check.due("first column then", y.body(4, 3), 31);
        y.clear(31, 0);
        Check.due("first row then", y.body(4, 5), 15);
        Check.due("cells", y.body(4, 0), 1);
    }

    private static void zeroing() {
        Check.says("Sets the sums of a body to 0; records and accounts stay.");
        Check.says("Returns the sum across the tunnel that it had.");
        for (int d = 0; d < 6; d++) {
            LatticeTunnel x = Tunnels.make(8, 6);
            x.solid(d, Tunnels.AROUND[d][0], Tunnels.AROUND[d][1]);
            x.put(3, 2, d);
            x.run(1);
            Check.due("across " + d, x.zero(d), 2 * Tunnels.ACROSS[d]);
            Check.due("sum along", x.body(d, 1), 0);
            Check.due("sum across", x.body(d, 2), 0);
            Check.due("record along", x.recent(d, 0, 1), 2 * Tunnels.ALONG[d]);
            Check.due("record across", x.recent(d, 1, 1), 2 * Tunnels.ACROSS[d]);
            Check.due("account along", x.momentum(0, 2), 2 * Tunnels.ALONG[d]);
            Check.due("account across", x.momentum(1, 2), 2 * Tunnels.ACROSS[d]);
            Check.due("nothing any more", x.zero(d), 0);
            Check.due("both are recorded", x.undo(), 4 - 1);
            x.undo();
            Check.due("undone", x.body(d, 1), 2 * Tunnels.ALONG[d]);
        }
        LatticeTunnel y = Tunnels.rattle();
        y.run(7);
        y.zero(1);
        y.run(2);
        Check.due("since then", y.body(1, 1), 4);
        Check.due("the other body", y.body(0, 1), -16);
        Check.due("a body without cells", y.zero(5), 0);
    }

    private static void fewerRecorded() {
        Check.says("how many, 1 to 64; all of them if there are fewer");
        LatticeTunnel x = Tunnels.rattle();
        for (int n = 0; n <= 70; n++) {
            for (int ticks = 1; ticks <= 64; ticks++) {
                int due = 0;
                for (int i = 1; i <= Math.min(ticks, n); i++) {
                    due += (n - i) % 2 == 0 ? 4 : 0;
                }
                Check.due("of " + n + " the latest " + ticks, x.recent(1, 0, ticks), due);
            }
            x.run(1);
        }
    }

    private static void steadyTicks() {
        Check.says("at least twice as many ticks are recorded as told");
        LatticeTunnel x = Tunnels.make(4, 2);
        for (int n = 0; n <= 70; n++) {
            for (int ticks = 1; ticks <= 32; ticks++) {
                Check.due(ticks + " of " + n, x.steady(3, ticks, 0) ? 1 : 0, n >= 2 * ticks ? 1 : 0);
            }
            x.run(1);
        }
        // A tick that is taken back is not there any more, also behind a full record.
        LatticeTunnel y = Tunnels.ring(4, 2);
        Tunnels.run(y, 80);
        Check.due("64 recorded", y.steady(3, 32, 0) ? 1 : 0, 1);
        y.back(1);
        Check.due("63 recorded", y.steady(3, 32, 0) ? 1 : 0, 0);
        Check.due("63 recorded", y.steady(3, 31, 0) ? 1 : 0, 1);
    }

    private static void steadyTolerance() {
        Check.says("for each axis what the body took in the latest so many ticks differs from what it took in as many "
                + "ticks before these by the tolerance at most.");
        // The hit is in the latest ticks, or in those before, or before all of them.
        for (int ticks = 1; ticks <= 32; ticks++) {
            LatticeTunnel x = oneHit();
            Tunnels.run(x, 2 * ticks);
            Check.due("less by 4", x.steady(2, ticks, 3) ? 1 : 0, 0);
            Check.due("less by 4", x.steady(2, ticks, 4) ? 1 : 0, 1);
            x.run(1);
            Check.due("nothing in all of them", x.steady(2, ticks, 0) ? 1 : 0, 1);
        }
        for (int d = 0; d < 6; d++) {
            LatticeTunnel y = Tunnels.make(8, 6);
            y.solid(d, Tunnels.AROUND[d][0], Tunnels.AROUND[d][1]);
            y.run(40);
            y.put(3, 2, d);
            y.run(1);
            int due = Math.max(Math.abs(2 * Tunnels.ALONG[d]), Math.abs(2 * Tunnels.ACROSS[d]));
            for (int ticks = 1; ticks <= 20; ticks++) {
                Check.due("direction " + d, y.steady(d, ticks, due - 1) ? 1 : 0, 0);
                Check.due("direction " + d, y.steady(d, ticks, due) ? 1 : 0, 1);
                Check.due("another body", y.steady((d + 1) % 6, ticks, 0) ? 1 : 0, 1);
            }
        }
        // Across alone: two particles whose parts along are opposite.
        LatticeTunnel y = Tunnels.make(8, 6);
        y.solid(1, 3, 1);
        y.run(1);
        y.put(3, 2, 1);
        y.put(4, 2, 2);
        y.run(1);
        Check.due("across", y.steady(1, 1, 3) ? 1 : 0, 0);
        Check.due("across", y.steady(1, 1, 4) ? 1 : 0, 1);
        most();
    }

    /** About the greatest tolerance: every second column is solid, and each of so many particles gives it 4. */
    private static void most() {
        for (int number : new int[] {249, 250, 251, 256}) {
            LatticeTunnel x = Tunnels.withBook(32, 16, "");
            for (int c = 1; c < 32; c += 2) {
                x.block(0, c, 0, c, 15);
            }
            x.run(1);
            for (int i = 0; i < number; i++) {
                x.put(2 * (i / 16), i % 16, 0);
            }
            x.run(1);
            Check.due("latest", x.recent(0, 0, 1), 4 * number);
            Check.due("differs by " + 4 * number, x.steady(0, 1, 1000) ? 1 : 0, number <= 250 ? 1 : 0);
            Check.due("differs by " + 4 * number, x.steady(0, 1, 999) ? 1 : 0, number < 250 ? 1 : 0);
        }
    }

    private static void accounts() {
        Check.says("Returns an account of particles, since the tunnel was built.");
        Check.says("Returns an account of momentum, since the tunnel was built.");
        LatticeTunnel x = Tunnels.withBook(4, 2, "");
        for (int what = 0; what <= 4; what++) {
            Check.due("nothing yet " + what, x.particles(what), 0);
        }
        for (int what = 0; what <= 5; what++) {
            Check.due("nothing yet along " + what, x.momentum(0, what), 0);
            Check.due("nothing yet across " + what, x.momentum(1, what), 0);
        }
        for (int d = 0; d < 6; d++) {
            x.put(1, 1, d);
            x.fill(1 << d, 2, 0, 2, 0);
            x.empty(1, 1, 1, 1);
            Check.due("put", x.particles(0), 2 * d + 2);
            Check.due("taken out", x.particles(2), d + 1);
            Check.due("along", x.momentum(0, 0), x.momentum(0, 5));
            Check.due("across", x.momentum(1, 0), x.momentum(1, 5));
        }
        Check.says("3: left at the ends");
        LatticeTunnel both = Tunnels.withBook(4, 16, "");
        both.fill(1, 3, 0, 3, 15);
        both.fill(8, 0, 0, 0, 15);
        both.put(0, 2, 2);
        both.run(1);
        Check.due("at both ends", both.particles(3), 33);
        Check.due("along", both.momentum(0, 4), -1);
        Check.due("across", both.momentum(1, 4), 1);
        both.run(40);
        Check.due("stays", both.particles(3), 33);
        both.zero(0);
        both.set(0, 1);
        Check.due("stays", both.particles(3), 33);
        both.save(0);
        both.build(4, 16);
        Check.due("built anew", both.particles(3), 0);
        both.restore(0);
        Check.due("restored", both.particles(3), 33);
        both.undo();
        Check.due("undone", both.particles(3), 0);
    }

    private static void counts() {
        Check.says("rules of the book (one with \"*\" counts once)");
        LatticeTunnel x = Tunnels.make(32, 16);
        int[] due = {32, 16, 0, 0, 2, 0, 0, 1, 0, 0, 0, 0};
        for (int what = 0; what < 12; what++) {
            Check.due("count " + what, x.count(what), due[what]);
        }
        x.block(0, 0, 0, 31, 15);
        Check.due("all solid", x.count(5), 512);
        x.clear(31, 15);
        Check.due("but one", x.count(5), 511);
        for (int i = 0; i < 9; i++) {
            x.run(40);
            Check.due("at most 64 recorded", x.count(6), Math.min(64, 40 * i + 40));
            Check.due("at most 4 in the history", x.count(7), Math.min(4, i + 4));
        }
        for (int i = 0; i < 85; i++) {
            Check.outcome(() -> x.type('9'));
        }
        Check.due("at most 80 in the pad", x.count(8), 80);
        for (int i = 0; i < 9; i++) {
            Check.outcome(() -> x.fan(0, 0, 0, 0, 1, 1));
        }
        Check.due("at most 6 gusts", x.count(3), 6);
    }
}
