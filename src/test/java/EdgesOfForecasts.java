import java.util.ArrayList;
import java.util.List;

/** The edges that the document names of forecasts (promises 35 to 39) and of changes, undo and saving (40 to 42). */
final class EdgesOfForecasts {
    private EdgesOfForecasts() {
    }

    static void all() {
        nothingChanges();
        ahead();
        cycleWithin();
        cycleOfEachCell();
        cycleWithGusts();
        cycleNotBegun();
        cycleIsEven();
        cycleIsLeast();
        noCycle();
        settles();
        settlesLimit();
        neverSettles();
        shiftsWithinThree();
        shiftsAllowed();
        shiftsAlike();
        startsWithinPeriod();
        startsAlike();
        startAbove();
        changes();
        changesOfNothing();
        noChanges();
        history();
        undoAll();
        slots();
        restoring();
    }

    // ---- helpers

    private static void cycleIs(String what, LatticeTunnel x, int ticks, int k, int p) {
        Check.due("k, " + what + " in " + ticks, x.cycle(ticks, 0), k);
        Check.due("p, " + what + " in " + ticks, x.cycle(ticks, 1), p);
    }

    /** The cycle is found in so many ticks, and in one less it is not. */
    private static void cycleNeeds(String what, LatticeTunnel x, int ticks, int k, int p) {
        cycleIs(what, x, ticks, k, p);
        if (ticks < 60) {
            cycleIs(what, x, 60, k, p);
        }
        if (ticks > 2) {
            cycleIs(what, x, ticks - 1, LatticeTunnel.NONE, LatticeTunnel.NONE);
        }
    }

    // ---- forecasts

    private static void nothingChanges() {
        Check.says("if nothing is changed");
        LatticeTunnel x = Tunnels.busy();
        x.save(0);
        x.run(3);
        x.save(1);
        Tunnels.type(x, "03>14");
        LatticeTunnel like = Tunnels.busy();
        like.save(0);
        like.run(3);
        like.save(1);
        Tunnels.type(like, "03>14");
        for (int b = 0; b < 6; b++) {
            x.ahead(b, 0, 40);
            x.ahead(b, 1, 1);
            x.settles(b, 32, 0, 40);
            x.bestStart(0, b, 40);
            x.bestStart(1, b, 1);
        }
        x.bestShift(2, 40);
        x.cycle(60, 0);
        x.cycle(2, 1);
        Check.same("all that is there", Tunnels.apart(x), Tunnels.apart(like));
    }

    private static void ahead() {
        Check.says("Finds what a body takes in the next ticks, if nothing is changed.");
        LatticeTunnel x = Tunnels.busy();
        for (int ticks = 1; ticks <= 40; ticks++) {
            for (int b = 0; b < 6; b++) {
                for (int axis = 0; axis <= 1; axis++) {
                    int before = x.body(b, 1 + axis);
                    int found = x.ahead(b, axis, ticks);
                    x.run(ticks);
                    Check.due("body " + b + " axis " + axis + " in " + ticks, x.body(b, 1 + axis) - before, found);
                    Check.due("the latest " + ticks, x.recent(b, axis, ticks), found);
                    x.undo();
                }
            }
        }
        // What it took before does not count, nor does zero().
        LatticeTunnel y = Tunnels.rattle();
        y.run(40);
        Check.due("the next 40", y.ahead(1, 0, 40), 80);
        y.zero(1);
        Check.due("after zero()", y.ahead(1, 0, 40), 80);
        Check.due("one more", y.ahead(1, 0, 1), 4);
        Check.due("a body without cells", y.ahead(4, 0, 40), 0);
        // Gusts that begin later blow in it.
        LatticeTunnel z = Tunnels.make(8, 2);
        z.solid(3, 2, 0);
        z.inlet(0, 0, 5, 60, 1);
        Check.due("not yet", z.ahead(3, 0, 6), 0);
        Check.due("blown in at 5, and there in the tick after", z.ahead(3, 0, 7), 4);
    }

    private static void cycleWithin() {
        Check.says("the least number k from 0 on, and for it the least number p from 1 on, with k + p not above the "
                + "ticks, so that after k + p ticks each cell has the particles that it has after k ticks");
        cycleNeeds("an empty tunnel", new LatticeTunnel(), 2, 0, 2);
        LatticeTunnel solid = Tunnels.make(4, 2);
        solid.block(0, 0, 0, 3, 1);
        cycleNeeds("a solid tunnel", solid, 2, 0, 2);
        // A particle that leaves from column 3 of 32 to the west, or to the east, is gone after so many ticks.
        for (int column = 0; column <= 29; column++) {
            LatticeTunnel west = Tunnels.make(32, 2);
            west.put(column, 1, 3);
            cycleNeeds("to the west from " + column, west, column + 3, column + 1, 2);
            LatticeTunnel east = Tunnels.make(32, 2);
            east.put(31 - column, 0, 0);
            cycleNeeds("to the east from " + (31 - column), east, column + 3, column + 1, 2);
        }
        // 58 ticks before it is gone: found at the very end of 60 ticks; and one column further on not at all.
        LatticeTunnel twice = Tunnels.make(32, 2);
        twice.solid(0, 31, 0);
        twice.put(4, 0, 0);
        cycleNeeds("there and back from 4", twice, 60, 58, 2);
        LatticeTunnel longer = Tunnels.make(32, 2);
        longer.solid(0, 31, 0);
        longer.put(3, 0, 0);
        cycleIs("there and back from 3", longer, 60, -1, -1);
    }

    private static void cycleOfEachCell() {
        Check.says("each cell has the particles that it has after k ticks");
        // One particle goes round, with each direction in which it keeps its row, in the narrowest and widest ring.
        for (int height = 2; height <= 16; height += 7) {
            for (int row = 0; row < height; row++) {
                for (int d = 0; d <= 3; d += 3) {
                    LatticeTunnel narrow = Tunnels.ring(4, height);
                    narrow.put(3, row, d);
                    cycleNeeds("direction " + d + " in row " + row + " of " + height, narrow, 4, 0, 4);
                    LatticeTunnel wide = Tunnels.ring(32, height);
                    wide.put(31, row, d);
                    cycleNeeds("direction " + d + " in row " + row + " of " + height, wide, 32, 0, 32);
                }
            }
        }
        // The other directions: through all rows, off a rough wall, and the same way back.
        for (int d : new int[] {1, 2, 4, 5}) {
            LatticeTunnel rough = Tunnels.ring(32, 16);
            rough.put(31, 15, d);
            cycleNeeds("direction " + d + " between rough walls", rough, 32, 0, 32);
        }
        inAnotherCell();
    }

    /**
     * Between a rough wall above and a smooth one below a particle goes through four directions before it comes back.
     * At half of that time it is in the next column to the left, round the ring, with another direction: of the
     * columns 0 and 31 that may be mistaken most easily.
     */
    private static void inAnotherCell() {
        for (int height = 2; height <= 16; height++) {
            for (int row = 0; row < height; row++) {
                LatticeTunnel x = Tunnels.ring(32, height);
                x.set(2, 1);
                x.put(0, row, 4);
                if (height < 16) {
                    cycleNeeds("row " + row + " of " + height, x, 4 * height, 0, 4 * height);
                } else {
                    cycleIs("row " + row + " of 16", x, 60, -1, -1);
                }
            }
        }
        LatticeTunnel half = Tunnels.ring(32, 2);
        half.set(2, 1);
        half.put(0, 0, 4);
        half.run(4);
        Check.due("half of the time", half.cell(31, 0), 32);
        Check.due("alone", half.particles(4), 1);
        cycleNeeds("from there", half, 8, 0, 8);
    }

    private static void cycleIsEven() {
        Check.says("p is even");
        for (int width = 4; width <= 32; width++) {
            LatticeTunnel x = Tunnels.ring(width, 2);
            x.put(0, 1, 3);
            int p = width % 2 == 0 ? width : 2 * width;
            if (p <= 60) {
                cycleNeeds("round a ring of " + width, x, p, 0, p);
            } else {
                cycleIs("round a ring of " + width, x, 60, -1, -1);
            }
        }
        // The same after each tick: 1 is no period.
        LatticeTunnel full = Tunnels.ring(4, 2);
        full.fill(63, 0, 0, 3, 1);
        cycleNeeds("full", full, 2, 0, 2);
    }

    private static void cycleIsLeast() {
        Check.says("and for it the least number p from 1 on");
        // Round a ring of 4 beside a rattle of 2: 4, not 8 or 12.
        LatticeTunnel x = Tunnels.ring(4, 3);
        x.put(0, 0, 0);
        cycleNeeds("one round", x, 4, 0, 4);
        x.solid(1, 1, 2);
        x.solid(1, 3, 2);
        x.put(2, 2, 0);
        cycleNeeds("one round, and a rattle", x, 4, 0, 4);
        // Solid cells and accounts are no matter.
        x.run(1);
        cycleNeeds("later", x, 4, 0, 4);
        Check.due("that was no cycle for the sum", x.body(1, 1), 4);
    }

    private static void cycleWithGusts() {
        Check.says("for each gust p is a multiple of its period");
        for (int period = 1; period <= 60; period++) {
            LatticeTunnel x = Tunnels.make(4, 2);
            x.drain(3, 0, 0, 0, period, 1);
            int p = period % 2 == 0 ? period : 2 * period;
            if (p <= 60) {
                cycleNeeds("a gust of period " + period, x, p, 0, p);
            } else {
                cycleIs("a gust of period " + period, x, 60, -1, -1);
            }
        }
        int[][] periods = {{2, 3}, {4, 6}, {5, 6}, {20, 30}, {12, 60}, {59, 1}, {7, 8}, {6, 10}, {4, 15}};
        int[] due = {6, 12, 30, 60, 60, -1, 56, 30, 60};
        for (int i = 0; i < periods.length; i++) {
            LatticeTunnel x = Tunnels.make(4, 2);
            x.fan(1, 0, 0, 0, periods[i][0], 1);
            x.drain(3, 0, 0, 0, periods[i][1], periods[i][1]);
            if (due[i] > 0) {
                cycleNeeds("two gusts, " + i, x, due[i], 0, due[i]);
            } else {
                cycleIs("two gusts, " + i, x, 60, -1, -1);
            }
        }
        // Six of them count.
        LatticeTunnel six = Tunnels.make(4, 2);
        for (int g = 0; g < 6; g++) {
            six.drain(g % 4, 0, 1, 0, g == 5 ? 6 : 1, 1);
        }
        cycleNeeds("the sixth", six, 6, 0, 6);
        six.drop(5);
        cycleNeeds("five", six, 2, 0, 2);
    }

    private static void cycleNotBegun() {
        Check.says("and its start is not greater than the time after k ticks.");
        for (int start = 0; start <= 60; start++) {
            LatticeTunnel x = Tunnels.make(4, 2);
            x.drain(3, 0, 0, start, 1, 1);
            for (int time = 0; time <= 2; time++) {
                int k = Math.max(0, start - time);
                if (k + 2 <= 60) {
                    cycleNeeds("a start of " + start + " at " + time, x, k + 2, k, 2);
                } else {
                    cycleIs("a start of " + start + " at " + time, x, 60, -1, -1);
                }
                x.run(1);
            }
        }
        LatticeTunnel two = Tunnels.make(4, 2);
        two.drain(3, 0, 0, 7, 1, 1);
        two.drain(3, 0, 0, 3, 1, 1);
        cycleNeeds("the later one of two", two, 9, 7, 2);
        two.drop(0);
        two.drain(3, 0, 0, 7, 1, 1);
        cycleNeeds("the later one of two is the second", two, 9, 7, 2);
        two.drain(3, 0, 0, 10000, 60, 1);
        cycleIs("one that begins far later", two, 60, -1, -1);
    }

    private static void noCycle() {
        Check.says("NONE if there is no such cycle.");
        // Round a ring of 31 columns: the same after 31 ticks, and after an even number of them not before 62.
        LatticeTunnel x = Tunnels.ring(31, 2);
        x.put(0, 0, 0);
        for (int ticks = 2; ticks <= 60; ticks++) {
            cycleIs("62 ticks round", x, ticks, LatticeTunnel.NONE, LatticeTunnel.NONE);
        }
        x.drain(0, 0, 0, 0, 1, 1);
        cycleNeeds("drained at once", x, 3, 1, 2);
    }

    private static void settles() {
        Check.says("Finds the least number of ticks, from 0 on, after which steady() would be true, if nothing is "
                + "changed.");
        LatticeTunnel x = Tunnels.busy();
        for (int round = 0; round < 4; round++) {
            for (int ticks = 1; ticks <= 32; ticks += round + 1) {
                for (int tolerance = 0; tolerance <= 12; tolerance += 3) {
                    int due = steadyAfter(x, ticks, tolerance);
                    Check.due(ticks + " by " + tolerance, x.settles(2, ticks, tolerance, 40), due);
                    if (due >= 0) {
                        Check.due("to the limit", x.settles(2, ticks, tolerance, due), due);
                    }
                    if (due > 0) {
                        Check.due("below the limit", x.settles(2, ticks, tolerance, due - 1), -1);
                    }
                }
            }
            x.run(19);
        }
    }

    private static int steadyAfter(LatticeTunnel x, int ticks, int tolerance) {
        x.save(0);
        int due = -1;
        for (int n = 0; n <= 40 && due < 0; n++) {
            due = x.steady(2, ticks, tolerance) ? n : -1;
            x.run(1);
        }
        x.restore(0);
        return due;
    }

    private static void settlesLimit() {
        Check.says("the greatest number that is tried, 0 to 40");
        LatticeTunnel x = new LatticeTunnel();
        for (int ticks = 1; ticks <= 32; ticks++) {
            for (int limit = 0; limit <= 40; limit++) {
                Check.due(ticks + " to " + limit, x.settles(0, ticks, 0, limit), 2 * ticks <= limit ? 2 * ticks : -1);
            }
        }
        // 24 recorded: 64 after 40 more, and not after 39.
        LatticeTunnel y = new LatticeTunnel();
        y.run(24);
        Check.due("in 40", y.settles(0, 32, 0, 40), 40);
        Check.due("in 39", y.settles(0, 32, 0, 39), -1);
        y.run(40);
        Check.due("now", y.settles(0, 32, 0, 0), 0);
        y.run(40);
        Check.due("with more behind it", y.settles(0, 32, 0, 0), 0);
        // A hit among the recorded ones goes out of both halves.
        LatticeTunnel z = Tunnels.make(8, 2);
        z.solid(2, 4, 0);
        z.put(3, 0, 0);
        z.run(1);
        for (int ticks = 1; ticks <= 20; ticks++) {
            Check.due("the hit is out of " + ticks, z.settles(2, ticks, 3, 40), 2 * ticks);
            Check.due("or within the tolerance", z.settles(2, ticks, 4, 40), 2 * ticks - 1);
        }
    }

    private static void neverSettles() {
        Check.says("NONE if there is none.");
        LatticeTunnel x = Tunnels.rattle();
        Tunnels.run(x, 64);
        for (int limit = 0; limit <= 40; limit++) {
            Check.due("odd numbers of ticks to " + limit, x.settles(1, 31, 3, limit), LatticeTunnel.NONE);
            Check.due("with the tolerance to " + limit, x.settles(1, 31, 4, limit), 0);
            Check.due("even numbers of ticks to " + limit, x.settles(1, 32, 0, limit), 0);
        }
    }

    private static void shiftsWithinThree() {
        Check.says("Finds by how many rows down a body should be shifted now (columns by 0), -3 to 3, so that it takes "
                + "as much as possible across the tunnel in the next ticks");
        for (int rows = -6; rows <= 6; rows++) {
            // A particle below the place of the body so many rows down goes up into it.
            LatticeTunnel x = Tunnels.make(8, 16);
            x.solid(0, 3, 8);
            int under = 8 + rows + 1;
            x.put(under % 2 == 0 ? 4 : 3, under, 2);
            boolean inReach = rows >= -3 && rows <= 3;
            Check.due("a place " + rows + " rows down", x.bestShift(0, 1), inReach ? rows : 0);
            Check.due("it is not shifted", x.cell(3, 8), -1);
        }
        // As by shifting it, for each number of ticks.
        LatticeTunnel y = Tunnels.busy();
        for (int ticks = 1; ticks <= 40; ticks++) {
            Check.due("in " + ticks, y.bestShift(2, ticks), bestOf(y, 2, ticks));
            y.run(1);
        }
    }

    /** By shifting it in each way that is possible, the preferred one of several first. */
    private static int bestOf(LatticeTunnel x, int body, int ticks) {
        int best = 0;
        int most = x.ahead(body, 1, ticks);
        for (int rows : new int[] {-1, 1, -2, 2, -3, 3}) {
            if (!Check.outcome(() -> x.shift(body, 0, rows)).endsWith("Exception")) {
                int lift = x.ahead(body, 1, ticks);
                x.undo();
                if (lift > most) {
                    most = lift;
                    best = rows;
                }
            }
        }
        return best;
    }

    private static void shiftsAllowed() {
        Check.says("only shifts are tried that shift() allows.");
        int[] due = {0, -1, 1, -1};
        for (int row = 0; row < 4; row++) {
            LatticeTunnel x = Tunnels.make(8, 4);
            x.solid(0, 3, row);
            if (row > 0) {
                // It goes down into the body, which had better be elsewhere. Above row 2 it is in the way itself.
                x.put(row % 2 == 0 ? 3 : 4, row - 1, 4);
            }
            Check.due("in row " + row, x.bestShift(0, 1), due[row]);
        }
        // No other place at all, though the body takes less than nothing here.
        LatticeTunnel low = Tunnels.make(8, 2);
        low.solid(0, 3, 1);
        low.put(4, 0, 4);
        Check.due("up by one", low.bestShift(0, 1), -1);
        low.solid(1, 3, 0);
        Check.due("another body above", low.bestShift(0, 1), 0);
        Check.due("it takes less than nothing", low.ahead(0, 1, 1), -2);
        low.clear(3, 0);
        low.put(3, 0, 1);
        Check.due("a particle above", low.bestShift(0, 1), 0);
        LatticeTunnel full = Tunnels.make(4, 16);
        full.block(0, 1, 0, 1, 15);
        full.put(0, 1, 0);
        Check.due("a body as high as the tunnel", full.bestShift(0, 40), 0);
        // A ring has walls above and below as well.
        LatticeTunnel ring = Tunnels.ring(8, 4);
        ring.solid(0, 3, 0);
        ring.put(3, 3, 1);
        Check.due("no way round above", ring.bestShift(0, 1), 0);
        // A place beyond one that is taken may be allowed.
        LatticeTunnel over = Tunnels.make(8, 8);
        over.solid(0, 3, 2);
        over.solid(1, 3, 3);
        over.solid(1, 3, 1);
        over.put(2, 1, 5);
        Check.due("over another body", over.bestShift(0, 1), -2);
        over.solid(1, 3, 0);
        Check.due("over another body, down", over.bestShift(0, 1), 2);
    }

    private static void shiftsAlike() {
        Check.says("Of several the one nearest to 0 is told, of two such ones the one below 0.");
        LatticeTunnel none = Tunnels.make(8, 16);
        none.solid(0, 3, 8);
        Check.due("all alike", none.bestShift(0, 40), 0);
        // Particles go up into some of the places; the body may be at any of these, if none of them is there now.
        for (int places = 1; places < 128; places++) {
            LatticeTunnel x = Tunnels.make(16, 16);
            x.solid(0, 5, 8);
            for (int rows = -3; rows <= 3; rows++) {
                if (isPlace(places, rows)) {
                    int under = 8 + rows + 1;
                    x.put(under % 2 == 0 ? 6 : 5, under, 2);
                }
            }
            int due = 0;
            boolean found = false;
            for (int rows : new int[] {0, -1, 1, -2, 2, -3, 3}) {
                if (!found && isPlace(places, rows) && x.cell(5, 8 + rows) <= 0) {
                    found = true;
                    due = rows;
                }
            }
            Check.due("places " + places, x.bestShift(0, 1), due);
        }
    }

    private static boolean isPlace(int places, int rows) {
        return (places >> rows + 3 & 1) != 0;
    }

    private static void startsWithinPeriod() {
        Check.says("Finds by how much the start of a gust should be later, 0 to its period less 1");
        // A particle goes up from row 15 to a body in row 0, and at a time it is where a drain blows all the time
        // from its start on: the start should be later than that.
        for (int time = 0; time < 14; time++) {
            for (int period = 1; period <= 60; period++) {
                LatticeTunnel x = Tunnels.make(32, 16);
                x.put(3, 15, 1);
                x.solid(2, 11, 0);
                x.drain(3 + (time + 1) / 2, 15 - time, 15 - time, 0, period, period);
                Check.due("later than " + time + " with " + period, x.bestStart(0, 2, 16),
                        time + 1 < period ? time + 1 : 0);
                Check.due("the start stays", x.gust(0, 4), 0);
            }
        }
        // As by a gust that starts later, for each number of ticks.
        for (int ticks = 1; ticks <= 40; ticks++) {
            LatticeTunnel x = Tunnels.busy();
            x.drop(0);
            int period = 1 + ticks * 7 % 60;
            x.inlet(1, 4, 5, period, 1 + period / 3);
            Tunnels.run(x, 4 + ticks);
            int due = bestLater(x, ticks);
            Check.due("period " + period + " in " + ticks, x.bestStart(1, 2, ticks), due);
        }
    }

    private static int bestLater(LatticeTunnel x, int ticks) {
        int best = 0;
        int most = x.ahead(2, 1, ticks);
        for (int later = 1; later < x.gust(1, 5); later++) {
            x.save(0);
            int period = x.gust(1, 5);
            x.drop(1);
            x.inlet(1, 4, 5 + later, period, 1 + period / 3);
            int lift = x.ahead(2, 1, ticks);
            x.restore(0);
            if (lift > most) {
                most = lift;
                best = later;
            }
        }
        return best;
    }

    private static void startsAlike() {
        Check.says("of several the least.");
        for (int period = 1; period <= 60; period++) {
            LatticeTunnel x = Tunnels.make(8, 4);
            x.solid(0, 4, 1);
            x.inlet(3, 3, 0, period, 1);
            Check.due("all alike, period " + period, x.bestStart(0, 0, 1), 0);
            Check.due("a body without cells, period " + period, x.bestStart(0, 5, 40), 0);
        }
        // The gust named is delayed, and no other one.
        LatticeTunnel x = Tunnels.make(8, 4);
        x.solid(2, 3, 1);
        x.put(3, 2, 1);
        x.drain(6, 0, 3, 0, 5, 5);
        x.drain(3, 2, 2, 0, 5, 5);
        Check.due("the first", x.bestStart(0, 2, 1), 0);
        Check.due("the second", x.bestStart(1, 2, 1), 1);
    }

    private static void startAbove() {
        Check.says("(also if it is above 10000 then)");
        LatticeTunnel x = Tunnels.make(8, 4);
        Tunnels.run(x, 10000);
        x.solid(2, 3, 1);
        x.put(3, 2, 1);
        x.drain(3, 2, 2, 10000, 60, 60);
        Check.due("10001", x.bestStart(0, 2, 1), 1);
        LatticeTunnel y = Tunnels.make(8, 4);
        Tunnels.run(y, 10059);
        y.solid(2, 3, 1);
        y.put(3, 2, 1);
        y.drain(3, 2, 2, 10000, 60, 60);
        Check.due("no start up to 10059 spares it at 10059", y.bestStart(0, 2, 1), 0);
        LatticeTunnel z = Tunnels.make(8, 4);
        Tunnels.run(z, 10058);
        z.solid(2, 3, 1);
        z.put(3, 2, 1);
        z.drain(3, 2, 2, 10000, 60, 60);
        Check.due("10059 alone spares it at 10058", z.bestStart(0, 2, 1), 59);
    }

    // ---- changes, undo, saving

    private interface Change {
        long on(LatticeTunnel x);
    }

    private static List<Change> allChanges() {
        List<Change> all = new ArrayList<>();
        all.add(x -> x.build(6, 4));
        all.add(x -> x.set(0, 0));
        all.add(x -> x.set(1, 1));
        all.add(x -> x.set(2, 1));
        all.add(x -> x.solid(1, 0, 3));
        all.add(x -> x.block(1, 0, 0, 5, 3));
        all.add(x -> x.clear(3, 1));
        all.add(x -> x.shift(2, 1, 0));
        all.add(x -> x.put(0, 3, 4));
        all.add(x -> x.fill(63, 0, 0, 5, 3));
        all.add(x -> x.empty(0, 0, 5, 3));
        all.add(x -> x.inlet(0, 3, 0, 1, 1));
        all.add(x -> x.fan(1, 0, 3, 0, 1, 1));
        all.add(x -> x.drain(1, 0, 3, 0, 1, 1));
        all.add(x -> x.rules());
        all.add(x -> x.run(40));
        all.add(x -> x.back(2));
        all.add(x -> x.zero(2));
        all.add(x -> x.restore(1));
        return all;
    }

    /** A ring in which each change is possible and makes a difference. */
    private static LatticeTunnel ring() {
        LatticeTunnel x = new LatticeTunnel();
        x.build(4, 2);
        x.fill(9, 0, 0, 3, 1);
        x.save(1);
        x.build(6, 4);
        x.set(0, 1);
        x.block(2, 3, 1, 3, 2);
        x.fill(2 + 32, 1, 0, 1, 3);
        x.put(2, 1, 0);
        x.save(0);
        x.run(2);
        x.empty(4, 1, 4, 2);
        x.empty(0, 3, 0, 3);
        x.set(2, 0);
        Tunnels.type(x, "0>0");
        return x;
    }

    private static void changes() {
        Check.says("A method that is a change, and throws no exception, first records the state before it");
        String before = Tunnels.picture(ring());
        int number = 0;
        for (Change change : allChanges()) {
            number++;
            LatticeTunnel x = ring();
            x.undo();
            String start = Tunnels.picture(x);
            change.on(x);
            Check.due("one more state, change " + number, x.count(7), 4);
            Check.holds("a difference, change " + number, !Tunnels.picture(x).equals(start));
            Check.due("undone, change " + number, x.undo(), 3);
            Check.same("undone, change " + number, Tunnels.picture(x), start);
            LatticeTunnel full = ring();
            change.on(full);
            Check.due("a full history, change " + number, full.count(7), 4);
            Check.due("undone, change " + number, full.undo(), 3);
            Check.same("undone, change " + number, Tunnels.picture(full), before);
        }
        LatticeTunnel x = Tunnels.busy();
        String busy = Tunnels.picture(x);
        x.drop(0);
        Check.due("drop", x.undo(), 3);
        Check.same("drop", Tunnels.picture(x), busy);
    }

    private static void changesOfNothing() {
        Check.says("also if nothing is different then");
        LatticeTunnel x = new LatticeTunnel();
        List<Change> all = new ArrayList<>();
        all.add(y -> y.build(16, 8));
        all.add(y -> y.set(0, 0));
        all.add(y -> y.set(1, 0));
        all.add(y -> y.set(2, 0));
        all.add(y -> y.empty(0, 0, 15, 7));
        all.add(y -> y.zero(0));
        all.add(y -> y.restore(0));
        x.save(0);
        nothingIsDifferent(x, all);
        all.clear();
        LatticeTunnel full = new LatticeTunnel();
        full.block(3, 0, 0, 15, 7);
        full.save(1);
        all.add(y -> y.block(3, 0, 0, 15, 7));
        all.add(y -> y.block(4, 2, 2, 2, 2));
        all.add(y -> y.fill(63, 0, 0, 15, 7));
        all.add(y -> y.shift(3, 0, 0));
        all.add(y -> y.restore(1));
        nothingIsDifferent(full, all);
        all.clear();
        LatticeTunnel empty = Tunnels.withBook(4, 2, "");
        all.add(y -> y.rules());
        all.add(y -> y.build(4, 2));
        nothingIsDifferent(empty, all);
    }

    private static void nothingIsDifferent(LatticeTunnel x, List<Change> all) {
        String before = Tunnels.picture(x);
        int history = x.count(7);
        for (Change change : all) {
            change.on(x);
            Check.due("recorded", x.count(7), history + 1);
            Check.same("nothing is different", Tunnels.picture(x), before);
            Check.due("undone", x.undo(), history);
            Check.same("undone", Tunnels.picture(x), before);
        }
    }

    private static void noChanges() {
        Check.says("a history of at most 4 states is kept");
        // What is no change is not recorded, in an empty history and in one that has room for one state.
        for (int full = 0; full <= 1; full++) {
            LatticeTunnel x = new LatticeTunnel();
            x.solid(0, 3, 3);
            x.inlet(0, 7, 0, 2, 1);
            x.run(4);
            x.run(4);
            x.undo();
            for (int i = 0; full == 0 && i < 3; i++) {
                x.undo();
            }
            int history = x.count(7);
            Check.due("history", history, full == 0 ? 0 : 3);
            asked(x);
            Check.due("asked", x.count(7), history);
        }
    }

    private static void asked(LatticeTunnel x) {
        x.type('0');
        x.fault(0);
        x.wipe();
        x.becomes(9, true);
        x.reversible();
        x.cell(0, 0);
        x.density(0, 0, 1, 1);
        x.wind(0, 0, 0, 1, 1);
        x.crossed(0);
        Check.outcome(() -> x.gust(0, 0));
        x.body(0, 0);
        x.recent(0, 0, 1);
        x.steady(0, 1, 1);
        x.particles(0);
        x.momentum(0, 0);
        x.count(7);
        x.ahead(0, 0, 1);
        x.cycle(2, 0);
        x.settles(0, 1, 1, 1);
        Check.outcome(() -> x.bestShift(0, 1));
        Check.outcome(() -> x.bestStart(0, 0, 1));
        x.save(0);
        x.save(1);
    }

    private static void history() {
        Check.says("and when one more is recorded, the oldest one is dropped.");
        for (int changes = 0; changes <= 13; changes++) {
            LatticeTunnel x = new LatticeTunnel();
            for (int i = 0; i < changes; i++) {
                Check.due("history", x.count(7), Math.min(4, i));
                x.put(i, 2, 0);
            }
            int kept = Math.min(4, changes);
            for (int left = kept - 1; left >= 0; left--) {
                Check.due("undo", x.undo(), left);
                Check.due("as many changes", x.particles(0), changes - (kept - left));
            }
            Check.noState("no more", () -> x.undo());
            Check.due("the older ones stay", x.particles(0), changes - kept);
        }
        // Undone and changed again, round and round.
        LatticeTunnel x = new LatticeTunnel();
        int there = 0;
        for (int round = 0; round < 30; round++) {
            for (int i = 0; i < 1 + round % 6; i++) {
                x.fill(1, there % 16, there / 16, there % 16, there / 16);
                there++;
            }
            for (int i = 0; i < round % 4 && x.count(7) > 0; i++) {
                x.undo();
                there--;
                Check.due("after " + round, x.particles(0), there);
            }
        }
    }

    private static void undoAll() {
        Check.says("Undo restores everything except the pad, the slots and the history.");
        LatticeTunnel x = ring();
        String before = Tunnels.picture(x);
        x.build(32, 16);
        Tunnels.type(x, "|1");
        x.save(0);
        Check.due("history", x.undo(), 3);
        Check.same("everything", Tunnels.picture(x), before);
        Check.due("the pad stays", x.count(8), 5);
        Check.due("the pad's fault", x.fault(1), 3);
        x.restore(0);
        Check.due("the slot stays", x.count(0), 32);
        x.undo();
        Check.same("everything again", Tunnels.picture(x), before);
        // It goes on from there as if nothing had been.
        LatticeTunnel like = ring();
        x.run(17);
        like.run(17);
        Check.same("goes on", Tunnels.picture(x), Tunnels.picture(like));
        Check.says("Undoes the latest change.");
        Check.says("Returns how many states the history has then.");
        LatticeTunnel y = new LatticeTunnel();
        y.run(1);
        y.undo();
        Check.noState("an undo cannot be undone", () -> y.undo());
        Check.due("time", y.count(2), 0);
    }

    private static void slots() {
        Check.says("Saves everything except the pad, the slots and the history in a slot, in place of what was saved "
                + "there.");
        for (int slot = 0; slot <= 1; slot++) {
            LatticeTunnel x = ring();
            int other = 1 - slot;
            String before = Tunnels.picture(x);
            Check.due("the time", x.save(slot), 2);
            x.build(5, 3);
            x.wipe();
            Tunnels.type(x, "*0>0");
            x.rules();
            Tunnels.type(x, "55");
            int history = x.count(7);
            Check.due("restore", x.restore(slot), 2);
            Check.same("everything", Tunnels.picture(x), before);
            Check.due("the pad stays", x.count(8), 2);
            Check.due("a change more", x.count(7), Math.min(4, history + 1));
            // The other slot has what it had.
            int time = x.restore(other);
            Check.due("the other slot", x.count(0), other == 1 ? 4 : 6);
            Check.due("its time", time, 0);
            x.save(slot);
            x.run(3);
            Check.due("in place of it", x.restore(slot), 0);
            Check.due("in place of it", x.count(0), other == 1 ? 4 : 6);
        }
        LatticeTunnel x = new LatticeTunnel();
        Check.due("a new object's", x.save(1), 0);
        Check.noState("the other slot is empty", () -> x.restore(0));
        x.run(40);
        Check.due("the time then", x.save(0), 40);
        Check.due("the first one's", x.restore(1), 0);
        Check.due("the second one's", x.restore(0), 40);
    }

    private static void restoring() {
        Check.says("Restores what was saved last in a slot, which keeps it. This is a change.");
        LatticeTunnel x = ring();
        String saved = Tunnels.picture(x);
        x.save(0);
        for (int i = 0; i < 6; i++) {
            x.run(1 + i);
            x.fill(63, 0, 0, 5, 3);
            String before = Tunnels.picture(x);
            Check.due("the time then", x.restore(0), 2);
            Check.same("what was saved", Tunnels.picture(x), saved);
            Check.due("undone", x.undo(), 3);
            Check.same("undone", Tunnels.picture(x), before);
            x.restore(0);
        }
        // What happens to the tunnel after it was saved or restored is nothing to the slot.
        x.zero(2);
        x.block(4, 0, 0, 5, 3);
        x.drain(0, 0, 0, 0, 1, 1);
        x.run(9);
        x.restore(0);
        Check.same("the slot keeps it", Tunnels.picture(x), saved);
        // What is saved in the history comes back as well.
        LatticeTunnel full = new LatticeTunnel();
        full.save(0);
        for (int i = 0; i < 9; i++) {
            full.restore(0);
            Check.due("restores are recorded", full.count(7), Math.min(4, i + 1));
        }
        full.build(32, 16);
        full.fill(63, 0, 0, 31, 15);
        full.save(1);
        full.restore(0);
        Check.due("a smaller one", full.count(0), 16);
        Check.noIndex("a smaller one", () -> full.cell(16, 0));
        full.restore(1);
        Check.due("the greater one", full.cell(31, 15), 63);
        Check.due("all of it", full.particles(4), 3072);
    }
}
