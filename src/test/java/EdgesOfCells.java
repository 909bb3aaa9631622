/** The edges that the document names under "Conventions" and "The lattice", and of promises 1 to 10 and 23 to 25. */
final class EdgesOfCells {
    private EdgesOfCells() {
    }

    static void all() {
        numberedFromNothing();
        rectangles();
        sizes();
        neighbours();
        leftAndTop();
        opposites();
        sixBodies();
        oneForEachDirection();
        statesAsNumbers();
        momentumOfStates();
        wallsAndEnds();
        newObject();
        builtAnew();
        setToBoth();
        solidCells();
        blocks();
        clearing();
        shifting();
        shiftsIntoCorners();
        filling();
        emptying();
        density();
    }

    // ---- conventions

    private static void numberedFromNothing() {
        Check.says("Columns, rows, bodies, gusts, slots, rules, and positions in texts are numbered from 0.");
        LatticeTunnel x = Tunnels.make(4, 2);
        Check.due("the first cell", x.put(0, 0, 0), 1);
        Check.due("the last cell", x.put(3, 1, 0), 1);
        Check.noIndex("a column more", () -> x.cell(4, 0));
        Check.noIndex("a row more", () -> x.cell(0, 2));
        Check.due("the first body", x.solid(0, 1, 0), 1);
        Check.due("the last body", x.solid(5, 2, 0), 1);
        Check.due("the first gust", x.inlet(0, 0, 0, 1, 1), 0);
        Check.due("the second gust", x.inlet(0, 0, 0, 1, 1), 1);
        Check.noIndex("a gust more", () -> x.gust(2, 0));
        Check.due("the first slot", x.save(0), 0);
        Check.due("the second slot", x.save(1), 0);
        x.type('x');
        Check.due("the first position", x.fault(0), 0);
        Check.due("the first rule", x.fault(2), 0);
    }

    private static void rectangles() {
        Check.says("A rectangle is told by its first column and row and its last column and row, which belong to it.");
        int[][] all = {{0, 0, 5, 3}, {1, 1, 4, 2}, {0, 0, 0, 0}, {5, 3, 5, 3}, {2, 0, 2, 3}, {0, 3, 5, 3},
            {5, 0, 5, 0}};
        for (int[] a : all) {
            int cells = (a[2] - a[0] + 1) * (a[3] - a[1] + 1);
            LatticeTunnel filled = Tunnels.make(6, 4);
            Check.due("fill", filled.fill(7, a[0], a[1], a[2], a[3]), 3 * cells);
            inside("fill", filled, a, 7, 0);
            Check.due("density", filled.density(a[0], a[1], a[2], a[3]), 3 * cells);
            LatticeTunnel full = Tunnels.make(6, 4);
            full.fill(7, 0, 0, 5, 3);
            Check.due("density of a part", full.density(a[0], a[1], a[2], a[3]), 3 * cells);
            Check.due("wind of a part along", full.wind(0, a[0], a[1], a[2], a[3]), 2 * cells);
            Check.due("wind of a part across", full.wind(1, a[0], a[1], a[2], a[3]), 2 * cells);
            Check.due("empty", full.empty(a[0], a[1], a[2], a[3]), 3 * cells);
            inside("empty", full, a, 0, 7);
            LatticeTunnel blocked = Tunnels.make(6, 4);
            Check.due("block", blocked.block(3, a[0], a[1], a[2], a[3]), cells);
            inside("block", blocked, a, -4, 0);
        }
    }

    private static void inside(String what, LatticeTunnel x, int[] a, int due, int outside) {
        for (int c = 0; c < 6; c++) {
            for (int r = 0; r < 4; r++) {
                boolean belongs = c >= a[0] && c <= a[2] && r >= a[1] && r <= a[3];
                Check.due(what + " at " + c + ", " + r, x.cell(c, r), belongs ? due : outside);
            }
        }
    }

    // ---- the lattice

    private static void sizes() {
        Check.says("The tunnel has a width of 4 to 32 columns and a height of 2 to 16 rows (16 and 8 at first).");
        LatticeTunnel first = new LatticeTunnel();
        Check.due("width at first", first.count(0), 16);
        Check.due("height at first", first.count(1), 8);
        Check.due("the last cell at first", first.cell(15, 7), 0);
        Check.noIndex("a column more at first", () -> first.cell(16, 7));
        Check.noIndex("a row more at first", () -> first.cell(15, 8));
        LatticeTunnel x = Tunnels.make(9, 6);
        int width = 9;
        int height = 6;
        for (int w = -2; w <= 66; w++) {
            for (int h = -2; h <= 34; h++) {
                int wide = w;
                int high = h;
                if (w >= 4 && w <= 32 && h >= 2 && h <= 16) {
                    Check.due("build " + w + " by " + h, x.build(w, h), w * h);
                    width = w;
                    height = h;
                } else {
                    Check.noArgument("build " + w + " by " + h, () -> x.build(wide, high));
                }
                Check.due("width after " + w + " by " + h, x.count(0), width);
                Check.due("height after " + w + " by " + h, x.count(1), height);
                sizeIs(x, width, height);
            }
        }
    }

    private static void sizeIs(LatticeTunnel x, int width, int height) {
        Check.due("the last cell", x.cell(width - 1, height - 1), 0);
        Check.noIndex("a column more", () -> x.cell(width, 0));
        Check.noIndex("a row more", () -> x.cell(0, height));
        Check.due("all cells", x.block(0, 0, 0, width - 1, height - 1), width * height);
        x.undo();
    }

    /** Twice the place of a cell along the tunnel, so that half a cell is a whole number. */
    private static int place(int column, int row) {
        return 2 * column + row % 2;
    }

    private static void neighbours() {
        Check.says("The rows with an odd number lie half a cell further to the right.");
        Check.says("A cell has six neighbours, in these directions:");
        Check.says("0 east: the next column of the same row; 3 west: the column before, of the same row;");
        Check.says("1 north-east and 2 north-west, in the row before: in an even row of the cell its own column and "
                + "the column before; in an odd one the next column and its own column;");
        Check.says("4 south-west and 5 south-east, in the next row: in an even row of the cell the column before and "
                + "its own column; in an odd one its own column and the next column.");
        Check.says("A particle goes to the neighbour in its direction, and keeps its direction.");
        Check.says("If that would be above the first or below the last row, it stays in its cell: at a rough wall its "
                + "direction becomes the opposite one; at a smooth one 1 becomes 5, 2 becomes 4, 4 becomes 2, and 5 "
                + "becomes 1. The wall takes the momentum that the particle had, less that which it has now.");
        int[] widths = {4, 5, 16, 31, 32};
        int[] heights = {2, 3, 4, 15, 16};
        LatticeTunnel x = new LatticeTunnel();
        for (int width : widths) {
            for (int height : heights) {
                for (int kind = 0; kind < 4; kind++) {
                    x.build(width, height);
                    x.set(0, kind & 1);
                    x.set(1, kind >> 1);
                    x.set(2, kind >> 1);
                    allMoves(x, width, height, kind);
                }
            }
        }
    }

    private static void allMoves(LatticeTunnel x, int width, int height, int kind) {
        x.save(0);
        for (int row = 0; row < height; row++) {
            for (int column = 0; column < width; column++) {
                // The inner cells of wide tunnels are all alike.
                if (column > 2 && column < width - 2) {
                    continue;
                }
                for (int d = 0; d < 6; d++) {
                    x.restore(0);
                    x.put(column, row, d);
                    x.run(1);
                    moved(x, new int[] {width, height, kind, column, row, d});
                }
            }
        }
    }

    /** Where a particle is after a tick follows from its momentum: that is how far it goes, in halves and rows. */
    private static void moved(LatticeTunnel x, int[] a) {
        int width = a[0];
        int column = a[3];
        int row = a[4];
        int d = a[5];
        String what = width + " by " + a[1] + " kind " + a[2] + ": " + column + ", " + row + " direction " + d;
        int toRow = row - Tunnels.ACROSS[d];
        int toColumn = (place(column, row) + Tunnels.ALONG[d] - Math.floorMod(toRow, 2)) >> 1;
        if (toRow < 0 || toRow >= a[1]) {
            int[] smooth = {-1, 5, 4, -1, 2, 1};
            int becomes = a[2] >> 1 == 1 ? smooth[d] : (d + 3) % 6;
            Check.due(what + " at a wall", x.cell(column, row), 1 << becomes);
            Check.due(what + " along to a wall", x.momentum(0, 3), Tunnels.ALONG[d] - Tunnels.ALONG[becomes]);
            Check.due(what + " across to a wall", x.momentum(1, 3), Tunnels.ACROSS[d] - Tunnels.ACROSS[becomes]);
            crossings(what, x, -1, 0);
        } else if ((a[2] & 1) == 0 && (toColumn < 0 || toColumn >= width)) {
            Check.due(what + " is out", x.particles(4), 0);
            Check.due(what + " left", x.particles(3), 1);
            Check.due(what + " along at the ends", x.momentum(0, 4), Tunnels.ALONG[d]);
            Check.due(what + " across at the ends", x.momentum(1, 4), Tunnels.ACROSS[d]);
            crossings(what, x, toColumn < 0 ? -1 : width - 1, 1);
        } else {
            Check.due(what + " goes there", x.cell(Math.floorMod(toColumn, width), toRow), 1 << d);
            int border = Math.floorMod(Math.min(column, toColumn), width);
            crossings(what, x, toColumn == column ? -1 : border, toColumn - column);
        }
        Check.due(what + " is in or out", x.particles(4) + x.particles(3), 1);
    }

    private static void crossings(String what, LatticeTunnel x, int column, int due) {
        for (int c = 0; c < x.count(0); c++) {
            Check.due(what + " crosses " + c, x.crossed(c), c == column ? due : 0);
        }
    }

    private static void leftAndTop() {
        Check.says("Column 0 is at the left end, row 0 at the top.");
        LatticeTunnel x = Tunnels.make(6, 4);
        x.put(0, 2, 3);
        x.put(5, 2, 0);
        x.put(2, 0, 1);
        x.put(2, 3, 4);
        x.run(1);
        Check.due("left at the ends", x.particles(3), 2);
        Check.due("back from the wall above", x.cell(2, 0), 16);
        Check.due("back from the wall below", x.cell(2, 3), 2);
    }

    private static void opposites() {
        Check.says("The opposite of the directions 0, 1, 2 is 3, 4, 5, and the other way round.");
        int[] opposite = {3, 4, 5, 0, 1, 2};
        for (int row = 2; row <= 3; row++) {
            for (int d = 0; d < 6; d++) {
                LatticeTunnel x = Tunnels.make(7, 6);
                x.put(3, row, d);
                x.block(1, 0, 0, 6, 5);
                x.run(1);
                Check.due("direction " + d + " between solid cells", x.cell(3, row), 1 << opposite[d]);
                x.run(1);
                Check.due("direction " + d + " again", x.cell(3, row), 1 << d);
                Check.due("along " + d, x.body(1, 1), 0);
                Check.due("across " + d, x.body(1, 2), 0);
            }
        }
    }

    private static void sixBodies() {
        Check.says("A cell is solid, and belongs to one of the 6 bodies, or it is free.");
        LatticeTunnel x = Tunnels.make(7, 3);
        for (int b = 0; b < 6; b++) {
            Check.due("body " + b, x.solid(b, b, 1), 1);
        }
        for (int b = 0; b < 6; b++) {
            Check.due("cell of body " + b, x.cell(b, 1), -1 - b);
            Check.due("cells of body " + b, x.body(b, 0), 1);
            int other = b;
            Check.noState("a second body for the cell of " + b, () -> x.solid((other + 1) % 6, other, 1));
            Check.due("a block over the cell of " + b, x.block((b + 1) % 6, b, 1, b, 1), 0);
            Check.due("cell of body " + b, x.cell(b, 1), -1 - b);
        }
        Check.due("solid cells", x.count(5), 6);
    }

    private static void oneForEachDirection() {
        Check.says("A free cell has at most one particle for each direction.");
        LatticeTunnel x = Tunnels.make(5, 3);
        for (int d = 0; d < 6; d++) {
            int direction = d;
            x.put(2, 1, d);
            Check.noState("a second one to " + d, () -> x.put(2, 1, direction));
            Check.due("filled with " + d, x.fill(1 << d, 2, 1, 2, 1), 0);
            Check.due("particles", x.particles(4), d + 1);
        }
        Check.due("full", x.cell(2, 1), 63);
        Check.due("filled with all", x.fill(63, 2, 1, 2, 1), 0);
        LatticeTunnel y = Tunnels.make(5, 3);
        y.fill(63, 0, 0, 4, 2);
        y.inlet(0, 2, 0, 1, 1);
        y.fan(3, 0, 2, 0, 1, 1);
        y.run(1);
        Check.due("nothing blown into full cells", y.gust(0, 7), 0);
        Check.due("nothing turned in full cells", y.gust(1, 7), 0);
    }

    private static void statesAsNumbers() {
        Check.says("The particles of a cell are told as a number: the sum of 2 to the power of their directions "
                + "(1 for east, 2, 4, 8, 16, 32).");
        for (int state = 1; state < 64; state++) {
            LatticeTunnel x = Tunnels.make(4, 2);
            Check.due("fill " + state, x.fill(state, 3, 1, 3, 1), Integer.bitCount(state));
            Check.due("cell " + state, x.cell(3, 1), state);
            LatticeTunnel y = Tunnels.make(4, 2);
            int sum = 0;
            for (int d = 5; d >= 0; d--) {
                if ((state >> d & 1) != 0) {
                    sum += 1 << d;
                    Check.due("put " + d, y.put(0, 0, d), sum);
                }
            }
            Check.due("cell " + state, y.cell(0, 0), state);
        }
        LatticeTunnel x = Tunnels.make(4, 2);
        Check.due("none", x.cell(0, 0), 0);
    }

    private static void momentumOfStates() {
        Check.says("The momentum of a particle has two parts: along the tunnel (axis 0) 2, 1, -1, -2, -1, 1 for the "
                + "directions 0 to 5, and across it (axis 1, upward) 0, 1, 1, 0, -1, -1.");
        for (int state = 1; state < 64; state++) {
            LatticeTunnel x = Tunnels.make(4, 2);
            x.fill(state, 3, 1, 3, 1);
            int along = 0;
            int across = 0;
            for (int d = 0; d < 6; d++) {
                along += (state >> d & 1) * Tunnels.ALONG[d];
                across += (state >> d & 1) * Tunnels.ACROSS[d];
            }
            Check.due("wind along " + state, x.wind(0, 3, 1, 3, 1), along);
            Check.due("wind across " + state, x.wind(1, 3, 1, 3, 1), across);
            Check.due("put along " + state, x.momentum(0, 0), along);
            Check.due("put across " + state, x.momentum(1, 0), across);
            Check.due("present along " + state, x.momentum(0, 5), along);
            Check.due("present across " + state, x.momentum(1, 5), across);
        }
    }

    private static void wallsAndEnds() {
        Check.says("Above the first and below the last row are walls; each is rough (0; at first) or smooth (1).");
        Check.says("The ends of the tunnel are open (0; at first), or it is a ring (1)");
        LatticeTunnel x = new LatticeTunnel();
        for (int what = 9; what <= 11; what++) {
            Check.due("at first " + what, x.count(what), 0);
        }
        // One wall is smooth, the other one is rough, and the other way round.
        for (int smooth = 1; smooth <= 2; smooth++) {
            LatticeTunnel y = Tunnels.make(6, 3);
            y.set(smooth, 1);
            y.put(2, 0, 1);
            y.put(4, 2, 5);
            y.run(1);
            Check.due("the wall above", y.cell(2, 0), smooth == 1 ? 32 : 16);
            Check.due("the wall below", y.cell(4, 2), smooth == 2 ? 2 : 4);
        }
    }

    // ---- promises 1 to 10

    private static void newObject() {
        Check.says("Builds a tunnel of 16 columns and 8 rows, all cells free, without particles and gusts; the time is "
                + "0, the pad and the history are empty, and nothing has been saved.");
        LatticeTunnel x = new LatticeTunnel();
        Check.same("looks as one built so", Tunnels.picture(x), Tunnels.picture(Tunnels.make(16, 8)));
        Check.due("no particles", x.density(0, 0, 15, 7), 0);
        Check.due("all cells free", x.block(0, 0, 0, 15, 7), 128);
        LatticeTunnel y = new LatticeTunnel();
        Check.noIndex("no gust", () -> y.drop(0));
        Check.due("the pad is empty", y.wipe(), 0);
        Check.due("no fault", y.fault(0), -1);
        Check.noState("no history", () -> y.undo());
        Check.noState("nothing in slot 0", () -> y.restore(0));
        Check.noState("nothing in slot 1", () -> y.restore(1));
        Check.due("not reversible, as the ends are open", y.reversible() ? 1 : 0, 0);
        // What one object does is nothing to another one.
        x.type('0');
        x.save(0);
        Check.due("the other's pad", y.count(8), 0);
        Check.due("the other's cells", y.count(5), 0);
        Check.noState("the other's slot", () -> y.restore(0));
    }

    private static void builtAnew() {
        Check.says("Builds a tunnel anew: all cells free, no particles, no gusts, the time 0, nothing recorded, no "
                + "column crossed, all sums and accounts 0; ends, walls and rules stay.");
        for (int wall = 0; wall < 8; wall++) {
            LatticeTunnel x = Tunnels.withBook(32, 16, "0134>1245;1245>0235");
            for (int what = 0; what < 3; what++) {
                x.set(what, wall >> what & 1);
            }
            x.block(5, 10, 0, 12, 15);
            x.fill(63, 0, 0, 9, 15);
            x.fan(31, 0, 15, 0, 1, 1);
            Tunnels.run(x, 70);
            x.save(1);
            Check.due("the same size", x.build(32, 16), 512);
            LatticeTunnel fresh = Tunnels.withBook(32, 16, "0134>1245;1245>0235");
            for (int what = 0; what < 3; what++) {
                fresh.set(what, wall >> what & 1);
                Check.due("stays " + what, x.count(9 + what), wall >> what & 1);
            }
            Check.same("as a fresh one", Tunnels.picture(x), Tunnels.picture(fresh));
            x.fill(27, 3, 3, 4, 4);
            fresh.fill(27, 3, 3, 4, 4);
            x.run(9);
            fresh.run(9);
            Check.same("goes on as a fresh one", Tunnels.picture(x), Tunnels.picture(fresh));
            Check.due("the slot stays", x.restore(1), 70);
            Check.due("the slot has its gust", x.count(3), 1);
        }
        LatticeTunnel y = Tunnels.typed("0>0");
        y.build(4, 2);
        Check.due("the pad stays", y.count(8), 3);
    }

    private static void setToBoth() {
        Check.says("Sets the ends or a wall. This is a change.");
        for (int what = 0; what <= 2; what++) {
            LatticeTunnel x = new LatticeTunnel();
            for (int value : new int[] {0, 1, 1, 0, 0}) {
                int before = x.count(9 + what);
                Check.due("what it was", x.set(what, value), before);
                Check.due("what it is", x.count(9 + what), value);
            }
            Check.due("each one is recorded", x.count(7), 4);
        }
        // What the ends are counts when a particle comes to them.
        LatticeTunnel y = Tunnels.ring(4, 2);
        y.put(3, 0, 0);
        y.set(0, 0);
        y.run(1);
        Check.due("open again", y.particles(3), 1);
    }

    private static void solidCells() {
        Check.says("Makes a free cell solid.");
        LatticeTunnel x = Tunnels.make(4, 2);
        int number = 0;
        for (int r = 0; r < 2; r++) {
            for (int c = 0; c < 4; c++) {
                number++;
                Check.due("cells then", x.solid(5, c, r), number);
                int column = c;
                int row = r;
                Check.noState("solid already", () -> x.solid(5, column, row));
            }
        }
        Check.due("the whole tunnel", x.count(5), 8);
        Check.due("a tick without free cells", x.run(1), 1);
        for (int d = 0; d < 6; d++) {
            LatticeTunnel y = Tunnels.make(4, 2);
            y.put(1, 1, d);
            Check.noState("a particle to " + d, () -> y.solid(0, 1, 1));
            y.empty(1, 1, 1, 1);
            Check.due("no particle now", y.solid(0, 1, 1), 1);
        }
    }

    private static void blocks() {
        Check.says("Makes all cells of a rectangle solid that are free and have no particles.");
        Check.says("Returns how many cells became solid.");
        LatticeTunnel x = Tunnels.make(32, 16);
        for (int d = 0; d < 6; d++) {
            x.put(d, 0, d);
        }
        x.solid(2, 31, 15);
        Check.due("the greatest rectangle", x.block(1, 0, 0, 31, 15), 512 - 7);
        Check.due("cells of the body", x.body(1, 0), 505);
        for (int d = 0; d < 6; d++) {
            Check.due("a particle to " + d + " stays", x.cell(d, 0), 1 << d);
        }
        Check.due("the other body's cell", x.cell(31, 15), -3);
        Check.due("none left", x.block(1, 0, 0, 31, 15), 0);
        Check.due("none left for another body", x.block(2, 0, 0, 31, 15), 0);
    }

    private static void clearing() {
        Check.says("Makes a solid cell free.");
        Check.says("Returns the body to which it belonged.");
        LatticeTunnel x = Tunnels.make(8, 2);
        for (int b = 0; b < 6; b++) {
            x.solid(b, 7 - b, b % 2);
        }
        for (int b = 0; b < 6; b++) {
            int column = 7 - b;
            int row = b % 2;
            Check.due("the body", x.clear(column, row), b);
            Check.due("free then", x.cell(column, row), 0);
            Check.due("solid cells", x.count(5), 5 - b);
            Check.due("its last cell", x.body(b, 3), -1);
            Check.noState("free already", () -> x.clear(column, row));
        }
        x.put(0, 0, 3);
        Check.noState("free with a particle", () -> x.clear(0, 0));
    }

    private static void shifting() {
        Check.says("each one belongs to the cell so many columns to the right and so many rows down instead; cells "
                + "that it leaves are free then, without particles.");
        int[] steps = {-8, -7, -1, 0, 1, 7, 8};
        for (int columns : steps) {
            for (int rows : steps) {
                LatticeTunnel x = Tunnels.make(19, 16);
                // Two cells with a gap between them, and the body's other row is shorter.
                int row = rows < 0 ? 10 : 4;
                x.solid(4, 8, row);
                x.solid(4, 10, row);
                x.solid(4, 9, row + 1);
                Check.due("cells", x.shift(4, columns, rows), 3);
                Check.due("solid cells", x.count(5), 3);
                Check.due("one cell", x.cell(8 + columns, row + rows), -5);
                Check.due("another cell", x.cell(10 + columns, row + rows), -5);
                Check.due("the third cell", x.cell(9 + columns, row + rows + 1), -5);
                Check.due("no particles", x.particles(4), 0);
                Check.due("none put", x.particles(0) + x.particles(2), 0);
            }
        }
        Check.says("Throws `IllegalStateException` if the body has no cells, or if the new place of one of them is "
                + "outside the tunnel (also in a ring), belongs to another body, or has particles");
        LatticeTunnel gap = Tunnels.make(6, 4);
        gap.solid(0, 1, 1);
        gap.solid(0, 3, 1);
        gap.put(2, 1, 0);
        Check.due("a particle in a gap of the body", gap.shift(0, 0, 1), 2);
        Check.noState("a particle where one cell would be", () -> gap.shift(0, 1, -1));
        gap.solid(1, 2, 3);
        Check.due("beside another body", gap.shift(0, 0, 1), 2);
        Check.noState("another body where one cell would be", () -> gap.shift(0, -1, 0));
        Check.due("the body's own cells are no hindrance", gap.shift(0, 2, 0), 2);
    }

    private static void shiftsIntoCorners() {
        for (int ends = 0; ends <= 1; ends++) {
            LatticeTunnel x = Tunnels.make(10, 10);
            x.set(0, ends);
            x.block(0, 1, 1, 8, 8);
            for (int d = 0; d < 4; d++) {
                int columns = d == 0 ? 1 : d == 1 ? -1 : 0;
                int rows = d == 2 ? 1 : d == 3 ? -1 : 0;
                Check.due("to the edge", x.shift(0, columns, rows), 64);
                Check.noState("beyond the edge", () -> x.shift(0, columns, rows));
                Check.noState("far beyond the edge", () -> x.shift(0, 8 * columns, 8 * rows));
                Check.due("back", x.shift(0, -columns, -rows), 64);
            }
            Check.due("first column", x.body(0, 3), 1);
            Check.due("last row", x.body(0, 6), 8);
        }
        LatticeTunnel full = Tunnels.make(32, 16);
        full.block(3, 0, 0, 31, 15);
        Check.due("a body of all cells, by nothing", full.shift(3, 0, 0), 512);
        for (int step = -1; step <= 1; step += 2) {
            int by = step;
            Check.noState("a body of all cells", () -> full.shift(3, by, 0));
            Check.noState("a body of all cells", () -> full.shift(3, 0, by));
        }
    }

    private static void filling() {
        Check.says("Puts into each free cell of a rectangle those particles of a state that it does not have.");
        Check.says("Returns how many particles were put.");
        for (int there = 0; there < 64; there += 7) {
            for (int state = 1; state < 64; state++) {
                LatticeTunnel x = Tunnels.make(4, 2);
                if (there > 0) {
                    x.fill(there, 1, 1, 1, 1);
                }
                x.solid(0, 2, 1);
                int number = Integer.bitCount(state & ~there);
                Check.due(state + " into " + there, x.fill(state, 1, 1, 2, 1), number);
                Check.due("then", x.cell(1, 1), state | there);
                Check.due("account", x.particles(0), Integer.bitCount(state | there));
                Check.due("the solid cell", x.cell(2, 1), -1);
            }
        }
        LatticeTunnel solid = Tunnels.make(4, 2);
        solid.block(0, 0, 0, 3, 1);
        Check.due("no free cell", solid.fill(63, 0, 0, 3, 1), 0);
        Check.due("nothing put", solid.particles(0), 0);
        LatticeTunnel most = Tunnels.make(32, 16);
        Check.due("the most", most.fill(63, 0, 0, 31, 15), 3072);
        Check.due("the most there", most.particles(4), 3072);
    }

    private static void emptying() {
        Check.says("Takes all particles out of a rectangle.");
        Check.says("Returns how many they were.");
        for (int state = 1; state < 64; state++) {
            LatticeTunnel x = Tunnels.make(4, 2);
            x.fill(state, 0, 0, 3, 1);
            x.empty(1, 0, 2, 0);
            Check.due("out of " + state, x.particles(2), 2 * Integer.bitCount(state));
            Check.due("left of " + state, x.particles(4), 6 * Integer.bitCount(state));
            Check.due("put less taken out", x.momentum(0, 0), x.momentum(0, 5));
            Check.due("put less taken out", x.momentum(1, 0), x.momentum(1, 5));
        }
        LatticeTunnel most = Tunnels.make(32, 16);
        most.fill(63, 0, 0, 31, 15);
        Check.due("the most", most.empty(0, 0, 31, 15), 3072);
        Check.due("nothing any more", most.empty(0, 0, 31, 15), 0);
        Check.due("account", most.particles(2), 3072);
        most.block(0, 0, 0, 31, 15);
        Check.due("solid cells", most.empty(0, 0, 31, 15), 0);
        Check.due("stay", most.count(5), 512);
    }

    // ---- promises 23 to 25

    private static void density() {
        Check.says("Returns its particles; -1 less the number of the body if it is solid.");
        LatticeTunnel x = Tunnels.make(8, 2);
        for (int b = 0; b < 6; b++) {
            x.solid(b, b, 1);
            Check.due("body " + b, x.cell(b, 1), -1 - b);
        }
        Check.says("Returns how many particles a rectangle has.");
        Check.due("none, with solid cells", x.density(0, 0, 7, 1), 0);
        Check.says("Returns the momentum of the particles of a rectangle.");
        Check.due("of none, with solid cells", x.wind(0, 0, 0, 7, 1), 0);
        Check.due("of none, with solid cells", x.wind(1, 0, 0, 7, 1), 0);
        LatticeTunnel most = Tunnels.make(32, 16);
        most.fill(1 + 2 + 32, 0, 0, 31, 15);
        Check.due("the most along", most.wind(0, 0, 0, 31, 15), 4 * 512);
        most.empty(0, 0, 31, 15);
        most.fill(4 + 8 + 16, 0, 0, 31, 15);
        Check.due("the least along", most.wind(0, 0, 0, 31, 15), -4 * 512);
        most.empty(0, 0, 31, 15);
        most.fill(16 + 32, 0, 0, 31, 15);
        Check.due("the least across", most.wind(1, 0, 0, 31, 15), -2 * 512);
    }
}
