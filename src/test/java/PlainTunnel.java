import java.util.ArrayDeque;
import java.util.ArrayList;
import java.util.Arrays;
import java.util.HashMap;
import java.util.HashSet;
import java.util.List;
import java.util.Map;
import java.util.Set;

/**
 * The document again, one cell and one particle at a time and without any care for room or speed, so that
 * LatticeTunnel can be held against it.
 */
final class PlainTunnel {
    static final int[] ALONG = {2, 1, -1, -2, -1, 1};
    static final int[] ACROSS = {0, 1, 1, 0, -1, -1};

    /** All that undo and slots bring back. */
    static final class World {
        int width = 16;
        int height = 8;
        int[][] cell = new int[16][8];
        int ends = 0;
        int above = 0;
        int below = 0;
        int time = 0;
        String book = "*03>14|25;*024>135";
        List<int[]> gusts = new ArrayList<>();
        List<int[][]> record = new ArrayList<>();
        int[] crossed = new int[16];
        int[][] sums = new int[6][2];
        int[] particles = new int[4];
        int[][] momentum = new int[2][5];

        World copy() {
            World w = new World();
            w.width = width;
            w.height = height;
            w.cell = deep(cell);
            w.ends = ends;
            w.above = above;
            w.below = below;
            w.time = time;
            w.book = book;
            for (int[] g : gusts) {
                w.gusts.add(g.clone());
            }
            for (int[][] r : record) {
                w.record.add(deep(r));
            }
            w.crossed = crossed.clone();
            w.sums = deep(sums);
            w.particles = particles.clone();
            w.momentum = deep(momentum);
            return w;
        }

        private static int[][] deep(int[][] rows) {
            int[][] copy = new int[rows.length][];
            for (int i = 0; i < rows.length; i++) {
                copy[i] = rows[i].clone();
            }
            return copy;
        }
    }

    World w = new World();
    ArrayDeque<World> history = new ArrayDeque<>();
    World[] slots = new World[2];
    String pad = "";

    // ---- what calls need

    private static void index(boolean... good) {
        for (boolean g : good) {
            if (!g) {
                throw new IndexOutOfBoundsException();
            }
        }
    }

    private static void argument(boolean... good) {
        for (boolean g : good) {
            if (!g) {
                throw new IllegalArgumentException();
            }
        }
    }

    private static void state(boolean... good) {
        for (boolean g : good) {
            if (!g) {
                throw new IllegalStateException();
            }
        }
    }

    private static boolean in(int value, int least, int most) {
        return least <= value && value <= most;
    }

    private boolean isColumn(int c) {
        return in(c, 0, w.width - 1);
    }

    private boolean isRow(int r) {
        return in(r, 0, w.height - 1);
    }

    private static boolean isBody(int b) {
        return in(b, 0, 5);
    }

    private void change() {
        history.addLast(w.copy());
        if (history.size() > 4) {
            history.removeFirst();
        }
    }

    // ---- the tunnel

    int build(int width, int height) {
        argument(in(width, 4, 32), in(height, 2, 16));
        change();
        World fresh = new World();
        fresh.width = width;
        fresh.height = height;
        fresh.cell = new int[width][height];
        fresh.crossed = new int[width];
        fresh.ends = w.ends;
        fresh.above = w.above;
        fresh.below = w.below;
        fresh.book = w.book;
        w = fresh;
        return width * height;
    }

    int set(int what, int value) {
        argument(in(what, 0, 2), in(value, 0, 1));
        change();
        int before = what == 0 ? w.ends : what == 1 ? w.above : w.below;
        if (what == 0) {
            w.ends = value;
        } else if (what == 1) {
            w.above = value;
        } else {
            w.below = value;
        }
        return before;
    }

    int solid(int body, int column, int row) {
        index(isBody(body), isColumn(column), isRow(row));
        state(w.cell[column][row] == 0);
        change();
        w.cell[column][row] = -1 - body;
        return body(body, 0);
    }

    int block(int body, int column, int row, int lastColumn, int lastRow) {
        index(isBody(body), isColumn(column), isRow(row), isColumn(lastColumn), isRow(lastRow));
        argument(column <= lastColumn, row <= lastRow);
        change();
        int made = 0;
        for (int c = column; c <= lastColumn; c++) {
            for (int r = row; r <= lastRow; r++) {
                if (w.cell[c][r] == 0) {
                    w.cell[c][r] = -1 - body;
                    made++;
                }
            }
        }
        return made;
    }

    int clear(int column, int row) {
        index(isColumn(column), isRow(row));
        state(w.cell[column][row] < 0);
        change();
        int body = -1 - w.cell[column][row];
        w.cell[column][row] = 0;
        return body;
    }

    private static boolean allowsShift(World w, int body, int columns, int rows) {
        int cells = 0;
        for (int c = 0; c < w.width; c++) {
            for (int r = 0; r < w.height; r++) {
                if (w.cell[c][r] == -1 - body) {
                    cells++;
                    int x = c + columns;
                    int y = r + rows;
                    if (!in(x, 0, w.width - 1) || !in(y, 0, w.height - 1)) {
                        return false;
                    }
                    if (w.cell[x][y] != 0 && w.cell[x][y] != -1 - body) {
                        return false;
                    }
                }
            }
        }
        return cells > 0;
    }

    private static void doShift(World w, int body, int columns, int rows) {
        List<int[]> places = new ArrayList<>();
        for (int c = 0; c < w.width; c++) {
            for (int r = 0; r < w.height; r++) {
                if (w.cell[c][r] == -1 - body) {
                    places.add(new int[] {c + columns, r + rows});
                    w.cell[c][r] = 0;
                }
            }
        }
        for (int[] place : places) {
            w.cell[place[0]][place[1]] = -1 - body;
        }
    }

    int shift(int body, int columns, int rows) {
        index(isBody(body));
        argument(in(columns, -8, 8), in(rows, -8, 8));
        state(allowsShift(w, body, columns, rows));
        change();
        doShift(w, body, columns, rows);
        return body(body, 0);
    }

    int put(int column, int row, int direction) {
        index(isColumn(column), isRow(row));
        argument(in(direction, 0, 5));
        state(w.cell[column][row] >= 0, (Math.max(0, w.cell[column][row]) & 1 << direction) == 0);
        change();
        add(column, row, direction);
        return w.cell[column][row];
    }

    private void add(int column, int row, int direction) {
        w.cell[column][row] += 1 << direction;
        w.particles[0]++;
        credit(w, 0, direction, 1);
    }

    private static void credit(World w, int account, int direction, int sign) {
        w.momentum[0][account] += sign * ALONG[direction];
        w.momentum[1][account] += sign * ACROSS[direction];
    }

    int fill(int state, int column, int row, int lastColumn, int lastRow) {
        index(isColumn(column), isRow(row), isColumn(lastColumn), isRow(lastRow));
        argument(in(state, 1, 63), column <= lastColumn, row <= lastRow);
        change();
        int put = 0;
        for (int c = column; c <= lastColumn; c++) {
            for (int r = row; r <= lastRow; r++) {
                for (int d = 0; d < 6; d++) {
                    if (w.cell[c][r] >= 0 && (state & ~w.cell[c][r] & 1 << d) != 0) {
                        add(c, r, d);
                        put++;
                    }
                }
            }
        }
        return put;
    }

    private static int takeAll(World w, int c, int r, int account) {
        int taken = 0;
        for (int d = 0; d < 6; d++) {
            if (w.cell[c][r] > 0 && (w.cell[c][r] & 1 << d) != 0) {
                w.cell[c][r] -= 1 << d;
                w.particles[2]++;
                credit(w, account, d, -1);
                taken++;
            }
        }
        return taken;
    }

    int empty(int column, int row, int lastColumn, int lastRow) {
        index(isColumn(column), isRow(row), isColumn(lastColumn), isRow(lastRow));
        argument(column <= lastColumn, row <= lastRow);
        change();
        int taken = 0;
        for (int c = column; c <= lastColumn; c++) {
            for (int r = row; r <= lastRow; r++) {
                taken += takeAll(w, c, r, 0);
            }
        }
        return taken;
    }

    // ---- gusts

    int inlet(int row, int lastRow, int start, int period, int length) {
        return gustOf(0, 0, row, lastRow, start, period, length);
    }

    int fan(int column, int row, int lastRow, int start, int period, int length) {
        return gustOf(1, column, row, lastRow, start, period, length);
    }

    int drain(int column, int row, int lastRow, int start, int period, int length) {
        return gustOf(2, column, row, lastRow, start, period, length);
    }

    private int gustOf(int kind, int column, int row, int lastRow, int start, int period, int length) {
        index(isColumn(column), isRow(row), isRow(lastRow));
        argument(row <= lastRow, in(start, 0, 10000), in(period, 1, 60), in(length, 1, period));
        state(w.gusts.size() < 6);
        change();
        w.gusts.add(new int[] {kind, column, row, lastRow, start, period, length, 0});
        return w.gusts.size() - 1;
    }

    int drop(int gust) {
        index(in(gust, 0, w.gusts.size() - 1));
        change();
        w.gusts.remove(gust);
        return w.gusts.size();
    }

    private static boolean blows(int[] g, int time) {
        return time >= g[4] && (time - g[4]) % g[5] < g[6];
    }

    // ---- rules of collision

    int type(int character) {
        argument(in(character, 33, 126));
        state(pad.length() < 80);
        pad += (char) character;
        return pad.length();
    }

    int wipe() {
        int before = pad.length();
        pad = "";
        return before;
    }

    /** Position, kind, rule of the first fault; null if there is none. */
    static int[] faultOf(String text) {
        if (text.isEmpty()) {
            return null;
        }
        Set<Integer> named = new HashSet<>();
        int begin = 0;
        for (int rule = 0; ; rule++) {
            int end = begin;
            // The places: 0 first, 1 behind *, 2 in the first state, 3 behind >, 4 in the second, 5 behind |, 6 in the third.
            int place = 0;
            int last = -1;
            while (true) {
                char c = end < text.length() ? text.charAt(end) : ';';
                boolean digit = c >= '0' && c <= '5';
                boolean inState = place == 2 || place == 4 || place == 6;
                if (place == 0 && c == '*') {
                    place = 1;
                } else if (digit && (place == 0 || place == 1 || place == 3 || place == 5)) {
                    place = place < 2 ? 2 : place + 1;
                    last = c;
                } else if (digit && inState && c > last) {
                    last = c;
                } else if (place == 2 && c == '>') {
                    place = 3;
                } else if (place == 4 && c == '|') {
                    place = 5;
                } else if ((place == 4 || place == 6) && c == ';') {
                    break;
                } else {
                    return new int[] {end, 1, rule};
                }
                end++;
            }
            String own = text.substring(begin, end);
            Set<Integer> fronts = new HashSet<>();
            for (int[] each : expand(own)) {
                fronts.add(each[0]);
            }
            for (int front : fronts) {
                if (named.contains(front)) {
                    return new int[] {begin, 2, rule};
                }
            }
            named.addAll(fronts);
            int[] plain = expand(own).get(0);
            int second = begin + own.indexOf('>') + 1;
            int third = begin + own.indexOf('|') + 1;
            if (!alike(plain[0], plain[1])) {
                return new int[] {second, 3, rule};
            }
            if (!alike(plain[0], plain[2])) {
                return new int[] {third, 3, rule};
            }
            if (end >= text.length()) {
                return null;
            }
            begin = end + 1;
        }
    }

    private static boolean alike(int one, int other) {
        return Integer.bitCount(one) == Integer.bitCount(other)
                && total(ALONG, one) == total(ALONG, other) && total(ACROSS, one) == total(ACROSS, other);
    }

    private static int total(int[] parts, int state) {
        int sum = 0;
        for (int d = 0; d < 6; d++) {
            sum += (state & 1 << d) != 0 ? parts[d] : 0;
        }
        return sum;
    }

    /** The rules for which one of good form stands: each its state and what that becomes, even and odd. */
    private static List<int[]> expand(String rule) {
        boolean star = rule.startsWith("*");
        String[] parts = (star ? rule.substring(1) : rule).split("[>|]");
        List<int[]> all = new ArrayList<>();
        for (int by = 0; by < (star ? 6 : 1); by++) {
            int front = directions(parts[0], by);
            int even = directions(parts[1], by);
            all.add(new int[] {front, even, parts.length > 2 ? directions(parts[2], by) : even});
        }
        return all;
    }

    private static int directions(String digits, int by) {
        int state = 0;
        for (char c : digits.toCharArray()) {
            state += 1 << (c - '0' + by) % 6;
        }
        return state;
    }

    int fault(int what) {
        argument(in(what, 0, 2));
        int[] fault = faultOf(pad);
        return fault == null ? -1 : fault[what];
    }

    int rules() {
        state(faultOf(pad) == null);
        change();
        w.book = pad;
        pad = "";
        return ruleNumber(w.book);
    }

    private static int ruleNumber(String book) {
        return book.isEmpty() ? 0 : book.split(";").length;
    }

    int becomes(int state, boolean odd) {
        argument(in(state, 0, 63));
        return table(w.book, odd)[state];
    }

    private static int[] table(String book, boolean odd) {
        int[] table = new int[64];
        for (int i = 0; i < 64; i++) {
            table[i] = i;
        }
        if (!book.isEmpty()) {
            for (String rule : book.split(";")) {
                for (int[] each : expand(rule)) {
                    table[each[0]] = odd ? each[2] : each[1];
                }
            }
        }
        return table;
    }

    // ---- ticks

    /**
     * Where a particle goes, and what it meets: column, row, direction, then 0 nothing, 1 a wall, 2 an end,
     * 3 a body, the body, and by how many columns it went.
     */
    private static int[] go(World w, int c, int r, int d) {
        boolean even = r % 2 == 0;
        int dc = 0;
        int dr = 0;
        switch (d) {
            case 0: dc = 1; break;
            case 3: dc = -1; break;
            case 1: dr = -1; dc = even ? 0 : 1; break;
            case 2: dr = -1; dc = even ? -1 : 0; break;
            case 4: dr = 1; dc = even ? -1 : 0; break;
            default: dr = 1; dc = even ? 0 : 1; break;
        }
        int opposite = (d + 3) % 6;
        if (r + dr < 0 || r + dr >= w.height) {
            int smooth = r + dr < 0 ? w.above : w.below;
            int mirrored = d == 1 ? 5 : d == 2 ? 4 : d == 4 ? 2 : 1;
            return new int[] {c, r, smooth == 1 ? mirrored : opposite, 1, -1, 0};
        }
        int x = c + dc;
        if (w.ends == 1) {
            x = (x + w.width) % w.width;
        } else if (x < 0 || x >= w.width) {
            return new int[] {x, r + dr, d, 2, -1, dc};
        }
        if (w.cell[x][r + dr] < 0) {
            return new int[] {c, r, opposite, 3, -1 - w.cell[x][r + dr], 0};
        }
        return new int[] {x, r + dr, d, 0, -1, dc};
    }

    private static void blowAll(World w) {
        for (int[] g : w.gusts) {
            if (!blows(g, w.time)) {
                continue;
            }
            int c = g[1];
            for (int r = g[2]; r <= g[3]; r++) {
                if (w.cell[c][r] < 0) {
                    continue;
                }
                boolean east = (w.cell[c][r] & 1) != 0;
                boolean west = (w.cell[c][r] & 8) != 0;
                if (g[0] == 0 && !east) {
                    w.cell[c][r] += 1;
                    w.particles[1]++;
                    credit(w, 1, 0, 1);
                    g[7]++;
                } else if (g[0] == 1 && west && !east) {
                    w.cell[c][r] += 1 - 8;
                    credit(w, 1, 0, 1);
                    credit(w, 1, 3, -1);
                    g[7]++;
                } else if (g[0] == 2) {
                    g[7] += takeAll(w, c, r, 1);
                }
            }
        }
    }

    static void tick(World w) {
        blowAll(w);
        int[][] next = new int[w.width][w.height];
        int[] crossed = new int[w.width];
        int[][] taken = new int[6][2];
        int[][] tables = {table(w.book, false), table(w.book, true)};
        for (int c = 0; c < w.width; c++) {
            for (int r = 0; r < w.height; r++) {
                if (w.cell[c][r] < 0) {
                    next[c][r] = w.cell[c][r];
                    continue;
                }
                int here = tables[(c + r + w.time) % 2][w.cell[c][r]];
                for (int d = 0; d < 6; d++) {
                    if ((here & 1 << d) == 0) {
                        continue;
                    }
                    int[] to = go(w, c, r, d);
                    int along = ALONG[d] - ALONG[to[2]];
                    int across = ACROSS[d] - ACROSS[to[2]];
                    if (to[3] == 1) {
                        w.momentum[0][3] += along;
                        w.momentum[1][3] += across;
                    } else if (to[3] == 2) {
                        w.particles[3]++;
                        credit(w, 4, d, 1);
                    } else if (to[3] == 3) {
                        taken[to[4]][0] += along;
                        taken[to[4]][1] += across;
                    }
                    if (to[5] == 1) {
                        crossed[c]++;
                    } else if (to[5] == -1 && to[3] != 2) {
                        crossed[to[0]]--;
                    }
                    if (to[3] != 2) {
                        if (next[to[0]][to[1]] < 0 || (next[to[0]][to[1]] & 1 << to[2]) != 0) {
                            throw new AssertionError("two particles in one place");
                        }
                        next[to[0]][to[1]] |= 1 << to[2];
                    }
                }
            }
        }
        w.cell = next;
        w.crossed = crossed;
        w.record.add(taken);
        if (w.record.size() > 64) {
            w.record.remove(0);
        }
        addTaken(w, taken, 1);
        w.time++;
    }

    private static void addTaken(World w, int[][] taken, int sign) {
        for (int b = 0; b < 6; b++) {
            for (int axis = 0; axis < 2; axis++) {
                w.sums[b][axis] += sign * taken[b][axis];
                w.momentum[axis][2] += sign * taken[b][axis];
            }
        }
    }

    int run(int ticks) {
        argument(in(ticks, 1, 40));
        change();
        for (int i = 0; i < ticks; i++) {
            tick(w);
        }
        return w.time;
    }

    boolean reversible() {
        if (w.ends != 1 || !w.gusts.isEmpty()) {
            return false;
        }
        for (boolean odd : new boolean[] {false, true}) {
            int[] sorted = table(w.book, odd);
            Arrays.sort(sorted);
            for (int i = 0; i < 64; i++) {
                if (sorted[i] != i) {
                    return false;
                }
            }
        }
        return true;
    }

    /** Looks for the particles before by trying, for each place of a particle, where it would go. */
    private static void tickBack(World w) {
        Map<List<Integer>, int[]> whence = new HashMap<>();
        for (int c = 0; c < w.width; c++) {
            for (int r = 0; r < w.height; r++) {
                for (int d = 0; d < 6 && w.cell[c][r] >= 0; d++) {
                    int[] to = go(w, c, r, d);
                    whence.put(List.of(to[0], to[1], to[2]), new int[] {c, r, d});
                }
            }
        }
        int[][] before = new int[w.width][w.height];
        for (int c = 0; c < w.width; c++) {
            for (int r = 0; r < w.height; r++) {
                if (w.cell[c][r] < 0) {
                    before[c][r] = w.cell[c][r];
                }
                for (int d = 0; d < 6 && w.cell[c][r] >= 0; d++) {
                    if ((w.cell[c][r] & 1 << d) != 0) {
                        int[] from = whence.get(List.of(c, r, d));
                        before[from[0]][from[1]] |= 1 << from[2];
                    }
                }
            }
        }
        for (int c = 0; c < w.width; c++) {
            for (int r = 0; r < w.height; r++) {
                if (before[c][r] >= 0) {
                    int[] table = table(w.book, (c + r + w.time - 1) % 2 == 1);
                    int origin = 0;
                    while (table[origin] != before[c][r]) {
                        origin++;
                    }
                    before[c][r] = origin;
                }
            }
        }
        World again = w.copy();
        again.cell = before;
        again.time--;
        int[][] wallsBefore = {again.momentum[0].clone(), again.momentum[1].clone()};
        int[][] present = w.cell;
        w.cell = World.deep(before);
        tick(again);
        if (!Arrays.deepEquals(again.cell, present)) {
            throw new AssertionError("a tick does not make the present particles");
        }
        addTaken(w, again.record.get(again.record.size() - 1), -1);
        for (int axis = 0; axis < 2; axis++) {
            w.momentum[axis][3] -= again.momentum[axis][3] - wallsBefore[axis][3];
        }
        w.time--;
        if (!w.record.isEmpty()) {
            w.record.remove(w.record.size() - 1);
        }
        w.crossed = new int[w.width];
    }

    int back(int ticks) {
        argument(in(ticks, 1, 40));
        state(reversible(), w.time >= ticks);
        change();
        for (int i = 0; i < ticks; i++) {
            tickBack(w);
        }
        return w.time;
    }

    // ---- what there is

    int cell(int column, int row) {
        index(isColumn(column), isRow(row));
        return w.cell[column][row];
    }

    int density(int column, int row, int lastColumn, int lastRow) {
        index(isColumn(column), isRow(row), isColumn(lastColumn), isRow(lastRow));
        argument(column <= lastColumn, row <= lastRow);
        int sum = 0;
        for (int c = column; c <= lastColumn; c++) {
            for (int r = row; r <= lastRow; r++) {
                sum += Integer.bitCount(Math.max(0, w.cell[c][r]));
            }
        }
        return sum;
    }

    int wind(int axis, int column, int row, int lastColumn, int lastRow) {
        index(isColumn(column), isRow(row), isColumn(lastColumn), isRow(lastRow));
        argument(in(axis, 0, 1), column <= lastColumn, row <= lastRow);
        int sum = 0;
        for (int c = column; c <= lastColumn; c++) {
            for (int r = row; r <= lastRow; r++) {
                sum += total(axis == 0 ? ALONG : ACROSS, Math.max(0, w.cell[c][r]));
            }
        }
        return sum;
    }

    int crossed(int column) {
        index(isColumn(column));
        return w.crossed[column];
    }

    int gust(int gust, int what) {
        index(in(gust, 0, w.gusts.size() - 1));
        argument(in(what, 0, 8));
        int[] g = w.gusts.get(gust);
        return what == 8 ? blows(g, w.time) ? 1 : 0 : g[what];
    }

    int body(int body, int what) {
        index(isBody(body));
        argument(in(what, 0, 6));
        int cells = 0;
        int[] span = {99, -1, 99, -1};
        for (int c = 0; c < w.width; c++) {
            for (int r = 0; r < w.height; r++) {
                if (w.cell[c][r] == -1 - body) {
                    cells++;
                    span[0] = Math.min(span[0], c);
                    span[1] = Math.max(span[1], c);
                    span[2] = Math.min(span[2], r);
                    span[3] = Math.max(span[3], r);
                }
            }
        }
        if (what == 0) {
            return cells;
        }
        if (what < 3) {
            return w.sums[body][what - 1];
        }
        return cells == 0 ? -1 : span[what - 3];
    }

    int zero(int body) {
        index(isBody(body));
        change();
        int before = w.sums[body][1];
        w.sums[body] = new int[2];
        return before;
    }

    private static int latest(World w, int body, int axis, int from, int ticks) {
        int sum = 0;
        for (int i = from; i < from + ticks; i++) {
            int at = w.record.size() - 1 - i;
            sum += at >= 0 ? w.record.get(at)[body][axis] : 0;
        }
        return sum;
    }

    int recent(int body, int axis, int ticks) {
        index(isBody(body));
        argument(in(axis, 0, 1), in(ticks, 1, 64));
        return latest(w, body, axis, 0, ticks);
    }

    private static boolean isSteady(World w, int body, int ticks, int tolerance) {
        return w.record.size() >= 2 * ticks
                && Math.abs(latest(w, body, 0, 0, ticks) - latest(w, body, 0, ticks, ticks)) <= tolerance
                && Math.abs(latest(w, body, 1, 0, ticks) - latest(w, body, 1, ticks, ticks)) <= tolerance;
    }

    boolean steady(int body, int ticks, int tolerance) {
        index(isBody(body));
        argument(in(ticks, 1, 32), in(tolerance, 0, 1000));
        return isSteady(w, body, ticks, tolerance);
    }

    int particles(int what) {
        argument(in(what, 0, 4));
        return what == 4 ? density(0, 0, w.width - 1, w.height - 1) : w.particles[what];
    }

    int momentum(int axis, int what) {
        argument(in(axis, 0, 1), in(what, 0, 5));
        return what == 5 ? wind(axis, 0, 0, w.width - 1, w.height - 1) : w.momentum[axis][what];
    }

    int count(int what) {
        argument(in(what, 0, 11));
        int solids = 0;
        for (int b = 0; b < 6; b++) {
            solids += body(b, 0);
        }
        return new int[] {w.width, w.height, w.time, w.gusts.size(), ruleNumber(w.book), solids, w.record.size(),
            history.size(), pad.length(), w.ends, w.above, w.below}[what];
    }

    // ---- forecasts

    private static int taken(World later, int body, int axis, int ticks) {
        int before = later.sums[body][axis];
        for (int i = 0; i < ticks; i++) {
            tick(later);
        }
        return later.sums[body][axis] - before;
    }

    int ahead(int body, int axis, int ticks) {
        index(isBody(body));
        argument(in(axis, 0, 1), in(ticks, 1, 40));
        return taken(w.copy(), body, axis, ticks);
    }

    int cycle(int ticks, int what) {
        argument(in(ticks, 2, 60), in(what, 0, 1));
        List<int[][]> cells = new ArrayList<>();
        World later = w.copy();
        for (int i = 0; i <= ticks; i++) {
            cells.add(World.deep(later.cell));
            tick(later);
        }
        for (int k = 0; k <= ticks; k++) {
            for (int p = 1; k + p <= ticks; p++) {
                boolean good = p % 2 == 0 && Arrays.deepEquals(cells.get(k), cells.get(k + p));
                for (int[] g : w.gusts) {
                    good = good && p % g[5] == 0 && g[4] <= w.time + k;
                }
                if (good) {
                    return what == 0 ? k : p;
                }
            }
        }
        return -1;
    }

    int settles(int body, int ticks, int tolerance, int limit) {
        index(isBody(body));
        argument(in(ticks, 1, 32), in(tolerance, 0, 1000), in(limit, 0, 40));
        World later = w.copy();
        for (int i = 0; i <= limit; i++) {
            if (isSteady(later, body, ticks, tolerance)) {
                return i;
            }
            tick(later);
        }
        return -1;
    }

    int bestShift(int body, int ticks) {
        index(isBody(body));
        argument(in(ticks, 1, 40));
        state(body(body, 0) > 0);
        Map<Integer, Integer> lifts = new HashMap<>();
        int most = Integer.MIN_VALUE;
        for (int rows = -3; rows <= 3; rows++) {
            if (allowsShift(w, body, 0, rows)) {
                World later = w.copy();
                doShift(later, body, 0, rows);
                lifts.put(rows, taken(later, body, 1, ticks));
                most = Math.max(most, lifts.get(rows));
            }
        }
        for (int distance = 0; distance <= 3; distance++) {
            for (int rows : new int[] {-distance, distance}) {
                if (lifts.containsKey(rows) && lifts.get(rows) == most) {
                    return rows;
                }
            }
        }
        throw new AssertionError("no shift at all");
    }

    int bestStart(int gust, int body, int ticks) {
        index(in(gust, 0, w.gusts.size() - 1), isBody(body));
        argument(in(ticks, 1, 40));
        int best = -1;
        int most = 0;
        for (int delay = 0; delay < w.gusts.get(gust)[5]; delay++) {
            World later = w.copy();
            later.gusts.get(gust)[4] += delay;
            int lift = taken(later, body, 1, ticks);
            if (best < 0 || lift > most) {
                best = delay;
                most = lift;
            }
        }
        return best;
    }

    // ---- undo, saving

    int undo() {
        state(!history.isEmpty());
        w = history.removeLast();
        return history.size();
    }

    int save(int slot) {
        index(in(slot, 0, 1));
        slots[slot] = w.copy();
        return w.time;
    }

    int restore(int slot) {
        index(in(slot, 0, 1));
        state(slots[slot] != null);
        change();
        w = slots[slot].copy();
        return w.time;
    }
}
