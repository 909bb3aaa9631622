import java.util.Arrays;

/**
 * A wind tunnel on a lattice. What it promises stands in the document; how it is held stands here.
 *
 * <p>A row has at most 32 columns, so a set of columns of a row is one int: bit c is column c. All that
 * happens in a tick happens to whole rows at once that way.
 */
public final class LatticeTunnel {
    public static final int NONE = -1;

    private static final int MOST_COLUMNS = 32;
    private static final int MOST_ROWS = 16;
    private static final int DIRECTIONS = 6;
    private static final int EAST = 0;
    private static final int WEST = 3;
    private static final int BODIES = 6;
    private static final int AXES = 2;
    private static final int STATES = 64;

    private static final int ENDS = 0;
    private static final int WALL_ABOVE = 1;
    private static final int WALL_BELOW = 2;
    private static final int FITTINGS = 3;

    private static final int MOST_GUSTS = 6;
    private static final int INLET = 0;
    private static final int FAN = 1;
    private static final int DRAIN = 2;
    private static final int MOST_START = 10000;
    private static final int MOST_PERIOD = 60;

    private static final int PARTICLES_PUT = 0;
    private static final int PARTICLES_BLOWN_IN = 1;
    private static final int PARTICLES_TAKEN_OUT = 2;
    private static final int PARTICLES_LEFT = 3;
    private static final int PARTICLES_PRESENT = 4;
    private static final int MOMENTUM_PUT = 0;
    private static final int MOMENTUM_OF_GUSTS = 1;
    private static final int MOMENTUM_OF_BODIES = 2;
    private static final int MOMENTUM_OF_WALLS = 3;
    private static final int MOMENTUM_LEFT = 4;
    private static final int MOMENTUM_PRESENT = 5;

    private static final int FORM_FAULT = 1;
    private static final int TWICE_FAULT = 2;
    private static final int BALANCE_FAULT = 3;

    private static final int MOST_RECORDED = 64;
    private static final int MOST_TICKS = 40;
    private static final int MOST_STEADY = 32;
    private static final int MOST_TOLERANCE = 1000;
    private static final int MOST_CYCLE = 60;
    private static final int MOST_SHIFT = 8;
    /** No body takes so little: 3072 particles in 40 ticks, each with 2 or less across. */
    private static final int BELOW_ALL_LIFTS = -1000000;
    private static final int PAD_LENGTH = 80;
    private static final int HISTORY = 4;
    private static final int SLOTS = 2;
    /** Two rows of particles go into one long of the trail. */
    private static final int TRAIL_LONGS = MOST_ROWS * DIRECTIONS / 2;

    private static final String FIRST_BOOK = "*03>14|25;*024>135";

    private static final int[] ALONG = {2, 1, -1, -2, -1, 1};
    private static final int[] ACROSS = {0, 1, 1, 0, -1, -1};
    private static final int[] OPPOSITE = {3, 4, 5, 0, 1, 2};
    private static final int[] MIRRORED = {0, 5, 4, 3, 2, 1};
    private static final int[] ROW_STEP = {0, -1, -1, 0, 1, 1};
    private static final int[] COLUMN_STEP_IN_EVEN_ROW = {1, 0, -1, -1, -1, 0};
    private static final int[] COLUMN_STEP_IN_ODD_ROW = {1, 1, 0, -1, 0, 1};
    /** In the order in which equally good ones are preferred. */
    private static final int[] SHIFTS_TRIED = {0, -1, 1, -2, 2, -3, 3};

    private final Tunnel now = new Tunnel();
    /** Where forecasts let ticks go by. */
    private final Tunnel later = new Tunnel();
    private final Stepper stepper = new Stepper();
    private final Pad pad = new Pad();
    private final Tunnel[] history = new Tunnel[HISTORY];
    private int historyFirst;
    private int historySize;
    private final Tunnel[] slots = new Tunnel[SLOTS];
    private final boolean[] saved = new boolean[SLOTS];
    /** The particles after each tick of a forecast, from 0 ticks on. */
    private final long[] trail = new long[(MOST_CYCLE + 1) * TRAIL_LONGS];

    public LatticeTunnel() {
        for (int i = 0; i < HISTORY; i++) {
            history[i] = new Tunnel();
        }
        for (int i = 0; i < SLOTS; i++) {
            slots[i] = new Tunnel();
        }
        now.buildAnew(16, 8);
        for (int i = 0; i < FIRST_BOOK.length(); i++) {
            pad.append(FIRST_BOOK.charAt(i));
        }
        pad.readBook();
        now.takeBook(pad);
        pad.length = 0;
    }

    // ---- the tunnel

    public int build(int width, int height) throws IllegalArgumentException {
        needRange(width, 4, MOST_COLUMNS);
        needRange(height, 2, MOST_ROWS);
        recordChange();
        now.buildAnew(width, height);
        return width * height;
    }

    public int set(int what, int value) throws IllegalArgumentException {
        needRange(what, 0, FITTINGS - 1);
        needRange(value, 0, 1);
        recordChange();
        int before = now.fittings[what];
        now.fittings[what] = value;
        return before;
    }

    public int solid(int body, int column, int row) throws IndexOutOfBoundsException, IllegalStateException {
        needBody(body);
        needCell(column, row);
        needState(now.cells.bodyAt(column, row) == NONE && now.cells.particlesAt(column, row) == 0);
        recordChange();
        now.cells.harden(body, row, 1 << column);
        return now.cells.sizeOf(body);
    }

    public int block(int body, int column, int row, int lastColumn, int lastRow)
            throws IndexOutOfBoundsException, IllegalArgumentException {
        needBody(body);
        needCells(column, row, lastColumn, lastRow);
        needOrder(column, row, lastColumn, lastRow);
        recordChange();
        int columns = columnsBetween(column, lastColumn);
        int hardened = 0;
        for (int r = row; r <= lastRow; r++) {
            hardened += now.cells.harden(body, r, columns);
        }
        return hardened;
    }

    public int clear(int column, int row) throws IndexOutOfBoundsException, IllegalStateException {
        needCell(column, row);
        int body = now.cells.bodyAt(column, row);
        needState(body != NONE);
        recordChange();
        now.cells.soften(body, column, row);
        return body;
    }

    public int shift(int body, int columns, int rows)
            throws IndexOutOfBoundsException, IllegalArgumentException, IllegalStateException {
        needBody(body);
        needRange(columns, -MOST_SHIFT, MOST_SHIFT);
        needRange(rows, -MOST_SHIFT, MOST_SHIFT);
        needState(now.cells.canMoveBody(body, columns, rows));
        recordChange();
        now.cells.moveBody(body, columns, rows);
        return now.cells.sizeOf(body);
    }

    public int put(int column, int row, int direction)
            throws IndexOutOfBoundsException, IllegalArgumentException, IllegalStateException {
        needCell(column, row);
        needRange(direction, 0, DIRECTIONS - 1);
        needState(now.cells.bodyAt(column, row) == NONE
                && ((now.cells.particlesAt(column, row) >> direction) & 1) == 0);
        recordChange();
        now.addParticles(row, direction, 1 << column);
        return now.cells.particlesAt(column, row);
    }

    public int fill(int state, int column, int row, int lastColumn, int lastRow)
            throws IndexOutOfBoundsException, IllegalArgumentException {
        needCells(column, row, lastColumn, lastRow);
        needRange(state, 1, STATES - 1);
        needOrder(column, row, lastColumn, lastRow);
        recordChange();
        int columns = columnsBetween(column, lastColumn);
        int added = 0;
        for (int r = row; r <= lastRow; r++) {
            for (int d = 0; d < DIRECTIONS; d++) {
                if (((state >> d) & 1) != 0) {
                    added += now.addParticles(r, d, columns);
                }
            }
        }
        return added;
    }

    public int empty(int column, int row, int lastColumn, int lastRow)
            throws IndexOutOfBoundsException, IllegalArgumentException {
        needCells(column, row, lastColumn, lastRow);
        needOrder(column, row, lastColumn, lastRow);
        recordChange();
        int columns = columnsBetween(column, lastColumn);
        int removed = 0;
        for (int r = row; r <= lastRow; r++) {
            removed += now.removeParticles(r, columns, MOMENTUM_PUT);
        }
        return removed;
    }

    // ---- gusts

    public int inlet(int row, int lastRow, int start, int period, int length)
            throws IndexOutOfBoundsException, IllegalArgumentException, IllegalStateException {
        return addGust(INLET, 0, row, lastRow, start, period, length);
    }

    public int fan(int column, int row, int lastRow, int start, int period, int length)
            throws IndexOutOfBoundsException, IllegalArgumentException, IllegalStateException {
        return addGust(FAN, column, row, lastRow, start, period, length);
    }

    public int drain(int column, int row, int lastRow, int start, int period, int length)
            throws IndexOutOfBoundsException, IllegalArgumentException, IllegalStateException {
        return addGust(DRAIN, column, row, lastRow, start, period, length);
    }

    public int drop(int gust) throws IndexOutOfBoundsException {
        needIndex(gust, now.gusts.size);
        recordChange();
        now.gusts.remove(gust);
        return now.gusts.size;
    }

    private int addGust(int kind, int column, int row, int lastRow, int start, int period, int length) {
        needCells(column, row, column, lastRow);
        needOrder(column, row, column, lastRow);
        needRange(start, 0, MOST_START);
        needRange(period, 1, MOST_PERIOD);
        needRange(length, 1, period);
        needState(now.gusts.size < MOST_GUSTS);
        recordChange();
        int gust = now.gusts.addPlace(kind, column, row, lastRow);
        now.gusts.setTimes(gust, start, period, length);
        return gust;
    }

    // ---- rules of collision

    public int type(int character) throws IllegalArgumentException, IllegalStateException {
        needRange(character, 33, 126);
        needState(pad.length < PAD_LENGTH);
        pad.append((char) character);
        return pad.length;
    }

    public int wipe() {
        int before = pad.length;
        pad.length = 0;
        return before;
    }

    public int fault(int what) throws IllegalArgumentException {
        needRange(what, 0, 2);
        pad.readBook();
        if (pad.faultKind == 0) {
            return NONE;
        }
        switch (what) {
            case 0:
                return pad.faultPosition;
            case 1:
                return pad.faultKind;
            default:
                return pad.ruleCount;
        }
    }

    public int rules() throws IllegalStateException {
        pad.readBook();
        needState(pad.faultKind == 0);
        recordChange();
        now.takeBook(pad);
        pad.length = 0;
        return now.ruleCount;
    }

    public int becomes(int state, boolean odd) throws IllegalArgumentException {
        needRange(state, 0, STATES - 1);
        return now.book[odd ? STATES + state : state];
    }

    // ---- ticks

    public int run(int ticks) throws IllegalArgumentException {
        needRange(ticks, 1, MOST_TICKS);
        recordChange();
        for (int i = 0; i < ticks; i++) {
            stepper.tick(now);
        }
        return now.time;
    }

    public boolean reversible() {
        return now.canGoBack();
    }

    public int back(int ticks) throws IllegalArgumentException, IllegalStateException {
        needRange(ticks, 1, MOST_TICKS);
        needState(now.canGoBack() && now.time >= ticks);
        recordChange();
        for (int i = 0; i < ticks; i++) {
            stepper.tickBack(now);
        }
        return now.time;
    }

    // ---- what there is

    public int cell(int column, int row) throws IndexOutOfBoundsException {
        needCell(column, row);
        int body = now.cells.bodyAt(column, row);
        return body == NONE ? now.cells.particlesAt(column, row) : -1 - body;
    }

    public int density(int column, int row, int lastColumn, int lastRow)
            throws IndexOutOfBoundsException, IllegalArgumentException {
        needCells(column, row, lastColumn, lastRow);
        needOrder(column, row, lastColumn, lastRow);
        return now.cells.numberIn(columnsBetween(column, lastColumn), row, lastRow);
    }

    public int wind(int axis, int column, int row, int lastColumn, int lastRow)
            throws IndexOutOfBoundsException, IllegalArgumentException {
        needCells(column, row, lastColumn, lastRow);
        needRange(axis, 0, AXES - 1);
        needOrder(column, row, lastColumn, lastRow);
        return now.cells.momentumIn(axis, columnsBetween(column, lastColumn), row, lastRow);
    }

    public int crossed(int column) throws IndexOutOfBoundsException {
        needIndex(column, now.cells.width);
        return now.crossingsOf(column);
    }

    public int gust(int gust, int what) throws IndexOutOfBoundsException, IllegalArgumentException {
        needIndex(gust, now.gusts.size);
        needRange(what, 0, Gusts.NUMBERS);
        if (what == Gusts.NUMBERS) {
            return now.gusts.isBlowing(gust, now.time) ? 1 : 0;
        }
        return now.gusts.numbers[gust * Gusts.NUMBERS + what];
    }

    public int body(int body, int what) throws IndexOutOfBoundsException, IllegalArgumentException {
        needBody(body);
        needRange(what, 0, 6);
        switch (what) {
            case 0:
                return now.cells.sizeOf(body);
            case 1:
                return now.sums[body * AXES];
            case 2:
                return now.sums[body * AXES + 1];
            case 3:
                return now.cells.firstColumnOf(body);
            case 4:
                return now.cells.lastColumnOf(body);
            case 5:
                return now.cells.firstRowOf(body);
            default:
                return now.cells.lastRowOf(body);
        }
    }

    public int zero(int body) throws IndexOutOfBoundsException {
        needBody(body);
        recordChange();
        int before = now.sums[body * AXES + 1];
        now.sums[body * AXES] = 0;
        now.sums[body * AXES + 1] = 0;
        return before;
    }

    public int recent(int body, int axis, int ticks) throws IndexOutOfBoundsException, IllegalArgumentException {
        needBody(body);
        needRange(axis, 0, AXES - 1);
        needRange(ticks, 1, MOST_RECORDED);
        return now.record.sumOf(body, axis, 0, ticks);
    }

    public boolean steady(int body, int ticks, int tolerance)
            throws IndexOutOfBoundsException, IllegalArgumentException {
        needBody(body);
        needRange(ticks, 1, MOST_STEADY);
        needRange(tolerance, 0, MOST_TOLERANCE);
        return now.record.isSteady(body, ticks, tolerance);
    }

    public int particles(int what) throws IllegalArgumentException {
        needRange(what, 0, PARTICLES_PRESENT);
        if (what == PARTICLES_PRESENT) {
            return now.cells.numberIn(-1, 0, now.cells.height - 1);
        }
        return now.accounts.particles[what];
    }

    public int momentum(int axis, int what) throws IllegalArgumentException {
        needRange(axis, 0, AXES - 1);
        needRange(what, 0, MOMENTUM_PRESENT);
        if (what == MOMENTUM_PRESENT) {
            return now.cells.momentumIn(axis, -1, 0, now.cells.height - 1);
        }
        return now.accounts.momentum[what * AXES + axis];
    }

    public int count(int what) throws IllegalArgumentException {
        needRange(what, 0, 11);
        switch (what) {
            case 0:
                return now.cells.width;
            case 1:
                return now.cells.height;
            case 2:
                return now.time;
            case 3:
                return now.gusts.size;
            case 4:
                return now.ruleCount;
            case 5:
                return now.cells.solidNumber();
            case 6:
                return now.record.size;
            case 7:
                return historySize;
            case 8:
                return pad.length;
            default:
                return now.fittings[what - 9];
        }
    }

    // ---- forecasts; nothing changes

    public int ahead(int body, int axis, int ticks) throws IndexOutOfBoundsException, IllegalArgumentException {
        needBody(body);
        needRange(axis, 0, AXES - 1);
        needRange(ticks, 1, MOST_TICKS);
        later.copyFrom(now);
        return takenLater(body, axis, ticks);
    }

    public int cycle(int ticks, int what) throws IllegalArgumentException {
        needRange(ticks, 2, MOST_CYCLE);
        needRange(what, 0, 1);
        layTrail(ticks);
        for (int k = 0; k + 2 <= ticks; k++) {
            int period = now.gusts.haveStarted(now.time + k) ? periodAfter(k, ticks) : NONE;
            if (period != NONE) {
                return what == 0 ? k : period;
            }
        }
        return NONE;
    }

    public int settles(int body, int ticks, int tolerance, int limit)
            throws IndexOutOfBoundsException, IllegalArgumentException {
        needBody(body);
        needRange(ticks, 1, MOST_STEADY);
        needRange(tolerance, 0, MOST_TOLERANCE);
        needRange(limit, 0, MOST_TICKS);
        later.copyFrom(now);
        for (int tried = 0; tried <= limit; tried++) {
            if (later.record.isSteady(body, ticks, tolerance)) {
                return tried;
            }
            stepper.tick(later);
        }
        return NONE;
    }

    public int bestShift(int body, int ticks)
            throws IndexOutOfBoundsException, IllegalArgumentException, IllegalStateException {
        needBody(body);
        needRange(ticks, 1, MOST_TICKS);
        needState(now.cells.sizeOf(body) > 0);
        int best = 0;
        int most = BELOW_ALL_LIFTS;
        for (int rows : SHIFTS_TRIED) {
            if (now.cells.canMoveBody(body, 0, rows)) {
                later.copyFrom(now);
                later.cells.moveBody(body, 0, rows);
                int lift = takenLater(body, 1, ticks);
                if (lift > most) {
                    most = lift;
                    best = rows;
                }
            }
        }
        return best;
    }

    public int bestStart(int gust, int body, int ticks) throws IndexOutOfBoundsException, IllegalArgumentException {
        needIndex(gust, now.gusts.size);
        needBody(body);
        needRange(ticks, 1, MOST_TICKS);
        int period = now.gusts.numbers[gust * Gusts.NUMBERS + Gusts.PERIOD];
        int best = 0;
        int most = BELOW_ALL_LIFTS;
        for (int delay = 0; delay < period; delay++) {
            later.copyFrom(now);
            later.gusts.numbers[gust * Gusts.NUMBERS + Gusts.START] += delay;
            int lift = takenLater(body, 1, ticks);
            if (lift > most) {
                most = lift;
                best = delay;
            }
        }
        return best;
    }

    private int takenLater(int body, int axis, int ticks) {
        int before = later.sums[body * AXES + axis];
        for (int i = 0; i < ticks; i++) {
            stepper.tick(later);
        }
        return later.sums[body * AXES + axis] - before;
    }

    private void layTrail(int ticks) {
        later.copyFrom(now);
        for (int tick = 0; tick <= ticks; tick++) {
            if (tick > 0) {
                stepper.tick(later);
            }
            int[] columns = later.cells.particles;
            for (int i = 0; i < TRAIL_LONGS; i++) {
                trail[tick * TRAIL_LONGS + i] = ((long) columns[2 * i] << 32) | (columns[2 * i + 1] & 0xffffffffL);
            }
        }
    }

    /** The collisions of a cell depend on whether the time is even, so only even periods count. */
    private int periodAfter(int k, int ticks) {
        for (int period = 2; k + period <= ticks; period += 2) {
            if (now.gusts.repeatAfter(period) && isTrailSame(k, k + period)) {
                return period;
            }
        }
        return NONE;
    }

    private boolean isTrailSame(int tick, int otherTick) {
        for (int i = 0; i < TRAIL_LONGS; i++) {
            if (trail[tick * TRAIL_LONGS + i] != trail[otherTick * TRAIL_LONGS + i]) {
                return false;
            }
        }
        return true;
    }

    // ---- undo, saving

    public int undo() throws IllegalStateException {
        needState(historySize > 0);
        historySize--;
        now.copyFrom(history[(historyFirst + historySize) % HISTORY]);
        return historySize;
    }

    public int save(int slot) throws IndexOutOfBoundsException {
        needIndex(slot, SLOTS);
        slots[slot].copyFrom(now);
        saved[slot] = true;
        return now.time;
    }

    public int restore(int slot) throws IndexOutOfBoundsException, IllegalStateException {
        needIndex(slot, SLOTS);
        needState(saved[slot]);
        recordChange();
        now.copyFrom(slots[slot]);
        return now.time;
    }

    /** The history is a ring, so that a call makes no new tunnel. */
    private void recordChange() {
        if (historySize == HISTORY) {
            historyFirst = (historyFirst + 1) % HISTORY;
            historySize--;
        }
        history[(historyFirst + historySize) % HISTORY].copyFrom(now);
        historySize++;
    }

    // ---- what calls need; each call asks for indexes first, then for ranges, then for the state

    private static void needIndex(int index, int size) {
        if (index < 0 || index >= size) {
            throw new IndexOutOfBoundsException("there is no such column, row, body, gust or slot");
        }
    }

    private static void needBody(int body) {
        needIndex(body, BODIES);
    }

    private void needCell(int column, int row) {
        needIndex(column, now.cells.width);
        needIndex(row, now.cells.height);
    }

    private void needCells(int column, int row, int lastColumn, int lastRow) {
        needCell(column, row);
        needCell(lastColumn, lastRow);
    }

    private static void needRange(int value, int least, int most) {
        if (value < least || value > most) {
            throw new IllegalArgumentException("an argument is out of its range");
        }
    }

    private static void needOrder(int column, int row, int lastColumn, int lastRow) {
        if (lastColumn < column || lastRow < row) {
            throw new IllegalArgumentException("a second column or row is less than the first one");
        }
    }

    private static void needState(boolean possible) {
        if (!possible) {
            throw new IllegalStateException("the call is not possible as things are");
        }
    }

    // ---- small sums that several classes need

    private static int columnsBetween(int first, int last) {
        return (-1 >>> (MOST_COLUMNS - 1 - last)) & (-1 << first);
    }

    private static int momentumOf(int axis, int direction) {
        return axis == 0 ? ALONG[direction] : ACROSS[direction];
    }

    /** Of each row the columns that have a particle of a direction, and those that belong to a body. */
    private static final class Cells {
        int width;
        int height;
        private int allColumns;
        /** At row * DIRECTIONS + direction; solid cells have none. */
        final int[] particles = new int[MOST_ROWS * DIRECTIONS];
        /** At row * BODIES + body. */
        final int[] bodies = new int[MOST_ROWS * BODIES];

        void makeFree(int newWidth, int newHeight) {
            width = newWidth;
            height = newHeight;
            allColumns = columnsBetween(0, newWidth - 1);
            Arrays.fill(particles, 0);
            Arrays.fill(bodies, 0);
        }

        void copyFrom(Cells other) {
            width = other.width;
            height = other.height;
            allColumns = other.allColumns;
            System.arraycopy(other.particles, 0, particles, 0, particles.length);
            System.arraycopy(other.bodies, 0, bodies, 0, bodies.length);
        }

        int solidColumns(int row) {
            int columns = 0;
            for (int b = 0; b < BODIES; b++) {
                columns |= bodies[row * BODIES + b];
            }
            return columns;
        }

        int occupiedColumns(int row) {
            int columns = 0;
            for (int d = 0; d < DIRECTIONS; d++) {
                columns |= particles[row * DIRECTIONS + d];
            }
            return columns;
        }

        int columnsWithState(int row, int state) {
            int columns = allColumns;
            for (int d = 0; d < DIRECTIONS; d++) {
                int having = particles[row * DIRECTIONS + d];
                columns &= ((state >> d) & 1) != 0 ? having : ~having;
            }
            return columns;
        }

        int particlesAt(int column, int row) {
            int state = 0;
            for (int d = 0; d < DIRECTIONS; d++) {
                state |= ((particles[row * DIRECTIONS + d] >>> column) & 1) << d;
            }
            return state;
        }

        int bodyAt(int column, int row) {
            for (int b = 0; b < BODIES; b++) {
                if (((bodies[row * BODIES + b] >>> column) & 1) != 0) {
                    return b;
                }
            }
            return NONE;
        }

        int numberIn(int columns, int row, int lastRow) {
            int number = 0;
            for (int i = row * DIRECTIONS; i < (lastRow + 1) * DIRECTIONS; i++) {
                number += Integer.bitCount(particles[i] & columns);
            }
            return number;
        }

        int momentumIn(int axis, int columns, int row, int lastRow) {
            int momentum = 0;
            for (int r = row; r <= lastRow; r++) {
                for (int d = 0; d < DIRECTIONS; d++) {
                    momentum += momentumOf(axis, d) * Integer.bitCount(particles[r * DIRECTIONS + d] & columns);
                }
            }
            return momentum;
        }

        int solidNumber() {
            int number = 0;
            for (int r = 0; r < height; r++) {
                number += Integer.bitCount(solidColumns(r));
            }
            return number;
        }

        int sizeOf(int body) {
            int size = 0;
            for (int r = 0; r < height; r++) {
                size += Integer.bitCount(bodies[r * BODIES + body]);
            }
            return size;
        }

        private int allColumnsOf(int body) {
            int columns = 0;
            for (int r = 0; r < height; r++) {
                columns |= bodies[r * BODIES + body];
            }
            return columns;
        }

        int firstColumnOf(int body) {
            int columns = allColumnsOf(body);
            for (int c = 0; c < width; c++) {
                if (((columns >>> c) & 1) != 0) {
                    return c;
                }
            }
            return NONE;
        }

        int lastColumnOf(int body) {
            int columns = allColumnsOf(body);
            for (int c = width - 1; c >= 0; c--) {
                if (((columns >>> c) & 1) != 0) {
                    return c;
                }
            }
            return NONE;
        }

        int firstRowOf(int body) {
            for (int r = 0; r < height; r++) {
                if (bodies[r * BODIES + body] != 0) {
                    return r;
                }
            }
            return NONE;
        }

        int lastRowOf(int body) {
            for (int r = height - 1; r >= 0; r--) {
                if (bodies[r * BODIES + body] != 0) {
                    return r;
                }
            }
            return NONE;
        }

        /** Passes over cells that are solid or have particles; answers how many became solid. */
        int harden(int body, int row, int columns) {
            int hardened = columns & ~solidColumns(row) & ~occupiedColumns(row);
            bodies[row * BODIES + body] |= hardened;
            return Integer.bitCount(hardened);
        }

        void soften(int body, int column, int row) {
            bodies[row * BODIES + body] &= ~(1 << column);
        }

        boolean canMoveBody(int body, int columns, int rows) {
            if (sizeOf(body) == 0) {
                return false;
            }
            if (firstColumnOf(body) + columns < 0 || lastColumnOf(body) + columns >= width
                    || firstRowOf(body) + rows < 0 || lastRowOf(body) + rows >= height) {
                return false;
            }
            for (int r = 0; r < height; r++) {
                int from = r - rows;
                if (from >= 0 && from < height) {
                    int place = pushed(bodies[from * BODIES + body], columns);
                    int others = solidColumns(r) & ~bodies[r * BODIES + body];
                    if ((place & (others | occupiedColumns(r))) != 0) {
                        return false;
                    }
                }
            }
            return true;
        }

        void moveBody(int body, int columns, int rows) {
            for (int i = 0; i < height; i++) {
                // A row is read before it is written: the far ones first.
                int to = rows > 0 ? height - 1 - i : i;
                int from = to - rows;
                boolean inside = from >= 0 && from < height;
                bodies[to * BODIES + body] = inside ? pushed(bodies[from * BODIES + body], columns) : 0;
            }
        }

        private static int pushed(int columns, int by) {
            return by >= 0 ? columns << by : columns >>> -by;
        }

        /** Where columns come by a step of -1, 0 or 1; beyond an open end they are lost. */
        int stepped(int columns, int step, boolean ring) {
            if (step > 0) {
                int wrapped = ring ? columns >>> (width - 1) : 0;
                return ((columns << 1) & allColumns) | wrapped;
            }
            if (step < 0) {
                int wrapped = ring ? (columns & 1) << (width - 1) : 0;
                return (columns >>> 1) | wrapped;
            }
            return columns;
        }

        /** The column from which a step leads beyond an end. */
        int endColumn(int step) {
            if (step > 0) {
                return 1 << (width - 1);
            }
            return step < 0 ? 1 : 0;
        }
    }

    private static final class Gusts {
        static final int KIND = 0;
        static final int COLUMN = 1;
        static final int ROW = 2;
        static final int LAST_ROW = 3;
        static final int START = 4;
        static final int PERIOD = 5;
        static final int LENGTH = 6;
        static final int EFFECT = 7;
        /** How many numbers a gust has. */
        static final int NUMBERS = 8;

        int size;
        final int[] numbers = new int[MOST_GUSTS * NUMBERS];

        void copyFrom(Gusts other) {
            size = other.size;
            System.arraycopy(other.numbers, 0, numbers, 0, numbers.length);
        }

        int addPlace(int kind, int column, int row, int lastRow) {
            int at = size * NUMBERS;
            numbers[at + KIND] = kind;
            numbers[at + COLUMN] = column;
            numbers[at + ROW] = row;
            numbers[at + LAST_ROW] = lastRow;
            numbers[at + EFFECT] = 0;
            size++;
            return size - 1;
        }

        void setTimes(int gust, int start, int period, int length) {
            numbers[gust * NUMBERS + START] = start;
            numbers[gust * NUMBERS + PERIOD] = period;
            numbers[gust * NUMBERS + LENGTH] = length;
        }

        void remove(int gust) {
            for (int i = gust * NUMBERS; i < (size - 1) * NUMBERS; i++) {
                numbers[i] = numbers[i + NUMBERS];
            }
            size--;
        }

        boolean isBlowing(int gust, int time) {
            int since = time - numbers[gust * NUMBERS + START];
            int period = numbers[gust * NUMBERS + PERIOD];
            return since >= 0 && period > 0 && since % period < numbers[gust * NUMBERS + LENGTH];
        }

        boolean haveStarted(int time) {
            for (int g = 0; g < size; g++) {
                if (numbers[g * NUMBERS + START] > time) {
                    return false;
                }
            }
            return true;
        }

        boolean repeatAfter(int ticks) {
            for (int g = 0; g < size; g++) {
                int period = numbers[g * NUMBERS + PERIOD];
                if (period > 0 && ticks % period != 0) {
                    return false;
                }
            }
            return true;
        }
    }

    /** What each body has taken in each of the latest ticks; a ring of rows, the latest one at latest. */
    private static final class TickRecord {
        private static final int ROW = BODIES * AXES;

        int size;
        private int latest;
        private final int[] rows = new int[MOST_RECORDED * ROW];

        void forget() {
            size = 0;
        }

        void copyFrom(TickRecord other) {
            size = other.size;
            latest = other.latest;
            System.arraycopy(other.rows, 0, rows, 0, rows.length);
        }

        void add(int[] taken) {
            latest = (latest + 1) % MOST_RECORDED;
            System.arraycopy(taken, 0, rows, latest * ROW, ROW);
            if (size < MOST_RECORDED) {
                size++;
            }
        }

        void removeLatest() {
            if (size > 0) {
                latest = (latest + MOST_RECORDED - 1) % MOST_RECORDED;
                size--;
            }
        }

        /** Over so many ticks before the latest ones that are passed over, or as many as there are. */
        int sumOf(int body, int axis, int passed, int ticks) {
            int sum = 0;
            for (int i = passed; i < passed + ticks && i < size; i++) {
                int row = (latest + MOST_RECORDED - i) % MOST_RECORDED;
                sum += rows[row * ROW + body * AXES + axis];
            }
            return sum;
        }

        boolean isSteady(int body, int ticks, int tolerance) {
            if (size < 2 * ticks) {
                return false;
            }
            for (int axis = 0; axis < AXES; axis++) {
                int difference = sumOf(body, axis, 0, ticks) - sumOf(body, axis, ticks, ticks);
                if (Math.abs(difference) > tolerance) {
                    return false;
                }
            }
            return true;
        }
    }

    private static final class Accounts {
        final int[] particles = new int[PARTICLES_PRESENT];
        /** At account * AXES + axis. */
        final int[] momentum = new int[MOMENTUM_PRESENT * AXES];

        void close() {
            Arrays.fill(particles, 0);
            Arrays.fill(momentum, 0);
        }

        void copyFrom(Accounts other) {
            System.arraycopy(other.particles, 0, particles, 0, particles.length);
            System.arraycopy(other.momentum, 0, momentum, 0, momentum.length);
        }

        void credit(int account, int direction, int number) {
            momentum[account * AXES] += ALONG[direction] * number;
            momentum[account * AXES + 1] += ACROSS[direction] * number;
        }
    }

    /** All that undo and the slots bring back. */
    private static final class Tunnel {
        final Cells cells = new Cells();
        final Gusts gusts = new Gusts();
        final TickRecord record = new TickRecord();
        final Accounts accounts = new Accounts();
        /** Ends, wall above, wall below. */
        final int[] fittings = new int[FITTINGS];
        /** What states become in even cells, and behind these what they become in odd ones. */
        final int[] book = new int[2 * STATES];
        int ruleCount;
        int time;
        /** What bodies have taken, at body * AXES + axis. */
        final int[] sums = new int[BODIES * AXES];
        /** At row * DIRECTIONS + direction: the columns whose right border was crossed by these in the latest tick. */
        final int[] crossings = new int[MOST_ROWS * DIRECTIONS];

        void buildAnew(int width, int height) {
            cells.makeFree(width, height);
            gusts.size = 0;
            record.forget();
            accounts.close();
            time = 0;
            Arrays.fill(sums, 0);
            Arrays.fill(crossings, 0);
        }

        void copyFrom(Tunnel other) {
            cells.copyFrom(other.cells);
            gusts.copyFrom(other.gusts);
            record.copyFrom(other.record);
            accounts.copyFrom(other.accounts);
            System.arraycopy(other.fittings, 0, fittings, 0, fittings.length);
            System.arraycopy(other.book, 0, book, 0, book.length);
            ruleCount = other.ruleCount;
            time = other.time;
            System.arraycopy(other.sums, 0, sums, 0, sums.length);
            System.arraycopy(other.crossings, 0, crossings, 0, crossings.length);
        }

        void takeBook(Pad pad) {
            System.arraycopy(pad.book, 0, book, 0, book.length);
            ruleCount = pad.ruleCount;
        }

        boolean isRing() {
            return fittings[ENDS] == 1;
        }

        boolean canGoBack() {
            return isRing() && gusts.size == 0 && isOneToOne(0) && isOneToOne(STATES);
        }

        /** A long has a bit for each state: all 64 are met if none is met twice. */
        private boolean isOneToOne(int firstOfBook) {
            long met = 0;
            for (int state = 0; state < STATES; state++) {
                met |= 1L << book[firstOfBook + state];
            }
            return met == -1L;
        }

        int addParticles(int row, int direction, int columns) {
            int at = row * DIRECTIONS + direction;
            int added = columns & ~cells.solidColumns(row) & ~cells.particles[at];
            int number = Integer.bitCount(added);
            cells.particles[at] |= added;
            accounts.particles[PARTICLES_PUT] += number;
            accounts.credit(MOMENTUM_PUT, direction, number);
            return number;
        }

        int removeParticles(int row, int columns, int momentumAccount) {
            int removed = 0;
            for (int d = 0; d < DIRECTIONS; d++) {
                int number = Integer.bitCount(cells.particles[row * DIRECTIONS + d] & columns);
                cells.particles[row * DIRECTIONS + d] &= ~columns;
                accounts.credit(momentumAccount, d, -number);
                removed += number;
            }
            accounts.particles[PARTICLES_TAKEN_OUT] += removed;
            return removed;
        }

        int crossingsOf(int column) {
            int number = 0;
            for (int r = 0; r < cells.height; r++) {
                for (int d = 0; d < DIRECTIONS; d++) {
                    int crossing = (crossings[r * DIRECTIONS + d] >>> column) & 1;
                    number += ALONG[d] > 0 ? crossing : -crossing;
                }
            }
            return number;
        }
    }

    /** Lets ticks go by, and takes them back. */
    private static final class Stepper {
        /** The particles between the steps of a tick, as Cells has them. */
        private final int[] ready = new int[MOST_ROWS * DIRECTIONS];
        private final int[] takenByBodies = new int[BODIES * AXES];
        private final int[] takenByWalls = new int[AXES];

        void tick(Tunnel tunnel) {
            blowGusts(tunnel);
            collide(tunnel);
            moveReady(tunnel);
            accountTaken(tunnel, 1);
            tunnel.record.add(takenByBodies);
            tunnel.time++;
        }

        /**
         * Particles that all turn round and move come back to where they were, with the opposite directions;
         * each bounce then gives the same momentum as it gave before. So the move is its own reverse
         * between two turns.
         */
        void tickBack(Tunnel tunnel) {
            int[] particles = tunnel.cells.particles;
            tunnel.time--;
            copyTurnedRound(particles, ready);
            moveReady(tunnel);
            copyTurnedRound(particles, ready);
            System.arraycopy(ready, 0, particles, 0, particles.length);
            undoCollisions(tunnel);
            System.arraycopy(ready, 0, particles, 0, particles.length);
            accountTaken(tunnel, -1);
            tunnel.record.removeLatest();
            Arrays.fill(tunnel.crossings, 0);
        }

        private static void copyTurnedRound(int[] from, int[] to) {
            for (int i = 0; i < MOST_ROWS * DIRECTIONS; i += DIRECTIONS) {
                for (int d = 0; d < DIRECTIONS; d++) {
                    to[i + d] = from[i + OPPOSITE[d]];
                }
            }
        }

        private static void blowGusts(Tunnel tunnel) {
            Gusts gusts = tunnel.gusts;
            for (int g = 0; g < gusts.size; g++) {
                if (gusts.isBlowing(g, tunnel.time)) {
                    int at = g * Gusts.NUMBERS;
                    int kind = gusts.numbers[at + Gusts.KIND];
                    int column = gusts.numbers[at + Gusts.COLUMN];
                    int lastRow = gusts.numbers[at + Gusts.LAST_ROW];
                    int effect = 0;
                    for (int r = gusts.numbers[at + Gusts.ROW]; r <= lastRow; r++) {
                        effect += blow(tunnel, kind, column, r);
                    }
                    gusts.numbers[at + Gusts.EFFECT] += effect;
                }
            }
        }

        private static int blow(Tunnel tunnel, int kind, int column, int row) {
            switch (kind) {
                case INLET:
                    return blowIn(tunnel, column, row);
                case FAN:
                    return turnEast(tunnel, column, row);
                default:
                    return tunnel.removeParticles(row, 1 << column, MOMENTUM_OF_GUSTS);
            }
        }

        private static int blowIn(Tunnel tunnel, int column, int row) {
            int[] particles = tunnel.cells.particles;
            int east = row * DIRECTIONS + EAST;
            int added = (1 << column) & ~tunnel.cells.solidColumns(row) & ~particles[east];
            if (added == 0) {
                return 0;
            }
            particles[east] |= added;
            tunnel.accounts.particles[PARTICLES_BLOWN_IN]++;
            tunnel.accounts.credit(MOMENTUM_OF_GUSTS, EAST, 1);
            return 1;
        }

        private static int turnEast(Tunnel tunnel, int column, int row) {
            int[] particles = tunnel.cells.particles;
            int east = row * DIRECTIONS + EAST;
            int west = row * DIRECTIONS + WEST;
            int turned = (1 << column) & particles[west] & ~particles[east];
            if (turned == 0) {
                return 0;
            }
            particles[west] &= ~turned;
            particles[east] |= turned;
            tunnel.accounts.credit(MOMENTUM_OF_GUSTS, WEST, -1);
            tunnel.accounts.credit(MOMENTUM_OF_GUSTS, EAST, 1);
            return 1;
        }

        private void collide(Tunnel tunnel) {
            System.arraycopy(tunnel.cells.particles, 0, ready, 0, ready.length);
            for (int state = 1; state < STATES; state++) {
                exchange(tunnel, state, tunnel.book[state], 0);
                exchange(tunnel, state, tunnel.book[STATES + state], 1);
            }
        }

        private void undoCollisions(Tunnel tunnel) {
            for (int state = 1; state < STATES; state++) {
                exchange(tunnel, tunnel.book[state], state, 0);
                exchange(tunnel, tunnel.book[STATES + state], state, 1);
            }
        }

        /** Reads the cells and changes what is ready, so that no cell changes twice. */
        private void exchange(Tunnel tunnel, int from, int to, int odd) {
            if (from == to) {
                return;
            }
            for (int r = 0; r < tunnel.cells.height; r++) {
                int columns = tunnel.cells.columnsWithState(r, from) & columnsOfParity(r + tunnel.time + odd);
                for (int d = 0; d < DIRECTIONS && columns != 0; d++) {
                    if ((((from ^ to) >> d) & 1) != 0) {
                        ready[r * DIRECTIONS + d] ^= columns;
                    }
                }
            }
        }

        private static int columnsOfParity(int number) {
            return (number & 1) == 0 ? 0x55555555 : 0xaaaaaaaa;
        }

        private void moveReady(Tunnel tunnel) {
            Arrays.fill(tunnel.cells.particles, 0);
            Arrays.fill(tunnel.crossings, 0);
            Arrays.fill(takenByBodies, 0);
            Arrays.fill(takenByWalls, 0);
            int height = tunnel.cells.height;
            for (int r = 0; r < height; r++) {
                for (int d = 0; d < DIRECTIONS; d++) {
                    int target = r + ROW_STEP[d];
                    if (ready[r * DIRECTIONS + d] != 0) {
                        if (target < 0 || target >= height) {
                            bounceOffWall(tunnel, r, d);
                        } else {
                            moveToRow(tunnel, r, d, target);
                        }
                    }
                }
            }
        }

        private void bounceOffWall(Tunnel tunnel, int row, int direction) {
            int columns = ready[row * DIRECTIONS + direction];
            int wall = ROW_STEP[direction] < 0 ? WALL_ABOVE : WALL_BELOW;
            int turned = tunnel.fittings[wall] == 1 ? MIRRORED[direction] : OPPOSITE[direction];
            tunnel.cells.particles[row * DIRECTIONS + turned] |= columns;
            for (int axis = 0; axis < AXES; axis++) {
                int lost = momentumOf(axis, direction) - momentumOf(axis, turned);
                takenByWalls[axis] += lost * Integer.bitCount(columns);
            }
        }

        private void moveToRow(Tunnel tunnel, int row, int direction, int target) {
            Cells cells = tunnel.cells;
            int columns = ready[row * DIRECTIONS + direction];
            int step = (row & 1) == 0 ? COLUMN_STEP_IN_EVEN_ROW[direction] : COLUMN_STEP_IN_ODD_ROW[direction];
            int leaving = tunnel.isRing() ? 0 : columns & cells.endColumn(step);
            int bouncing = columns & cells.stepped(cells.solidColumns(target), -step, tunnel.isRing());
            int going = columns & ~leaving & ~bouncing;
            int arriving = cells.stepped(going, step, tunnel.isRing());
            cells.particles[target * DIRECTIONS + direction] |= arriving;
            if (step != 0) {
                tunnel.crossings[row * DIRECTIONS + direction] = step > 0 ? going | leaving : arriving;
            }
            if (leaving != 0) {
                tunnel.accounts.particles[PARTICLES_LEFT] += Integer.bitCount(leaving);
                tunnel.accounts.credit(MOMENTUM_LEFT, direction, Integer.bitCount(leaving));
            }
            if (bouncing != 0) {
                cells.particles[row * DIRECTIONS + OPPOSITE[direction]] |= bouncing;
                giveToBodies(tunnel, bouncing, direction, target, step);
            }
        }

        private void giveToBodies(Tunnel tunnel, int bouncing, int direction, int target, int step) {
            Cells cells = tunnel.cells;
            for (int b = 0; b < BODIES; b++) {
                int body = cells.stepped(cells.bodies[target * BODIES + b], -step, tunnel.isRing());
                int number = Integer.bitCount(bouncing & body);
                takenByBodies[b * AXES] += 2 * ALONG[direction] * number;
                takenByBodies[b * AXES + 1] += 2 * ACROSS[direction] * number;
            }
        }

        private void accountTaken(Tunnel tunnel, int sign) {
            int[] momentum = tunnel.accounts.momentum;
            for (int axis = 0; axis < AXES; axis++) {
                momentum[MOMENTUM_OF_WALLS * AXES + axis] += sign * takenByWalls[axis];
                for (int b = 0; b < BODIES; b++) {
                    int taken = sign * takenByBodies[b * AXES + axis];
                    tunnel.sums[b * AXES + axis] += taken;
                    momentum[MOMENTUM_OF_BODIES * AXES + axis] += taken;
                }
            }
        }
    }

    /** The text that is typed, and what it says as a book of rules. */
    private static final class Pad {
        final char[] text = new char[PAD_LENGTH];
        int length;

        /** As a tunnel has it; good only if there is no fault. */
        final int[] book = new int[2 * STATES];
        /** The rules before the fault, or all of them; so it is also the number of the rule with the fault. */
        int ruleCount;
        /** 0 if there is none. */
        int faultKind;
        int faultPosition;

        private final boolean[] named = new boolean[STATES];
        private int position;
        private boolean starred;
        private int from;
        private int even;
        private int evenPosition;
        private int odd;
        private int oddPosition;

        void append(char character) {
            if (length < PAD_LENGTH) {
                text[length] = character;
                length++;
            }
        }

        void readBook() {
            ruleCount = 0;
            faultKind = 0;
            position = 0;
            for (int state = 0; state < STATES; state++) {
                book[state] = state;
                book[STATES + state] = state;
                named[state] = false;
            }
            boolean more = length > 0;
            for (int i = 0; i <= PAD_LENGTH && more; i++) {
                readRule();
                if (faultKind == 0) {
                    enterRule();
                }
                more = faultKind == 0 && position < length;
                position++;
            }
        }

        private void readRule() {
            int first = position;
            if (!readForm()) {
                tell(FORM_FAULT, position);
            } else if (isNamedBefore()) {
                tell(TWICE_FAULT, first);
            } else if (!isBalanced(from, even)) {
                tell(BALANCE_FAULT, evenPosition);
            } else if (!isBalanced(from, odd)) {
                tell(BALANCE_FAULT, oddPosition);
            }
        }

        private void tell(int kind, int at) {
            faultKind = kind;
            faultPosition = at;
        }

        /** Stops at the first character that cannot stand at its place. */
        private boolean readForm() {
            starred = skip('*');
            from = readState();
            if (from == 0 || !skip('>')) {
                return false;
            }
            evenPosition = position;
            even = readState();
            if (even == 0) {
                return false;
            }
            oddPosition = evenPosition;
            odd = even;
            if (skip('|')) {
                oddPosition = position;
                odd = readState();
            }
            return odd != 0 && (position >= length || text[position] == ';');
        }

        private boolean skip(char character) {
            if (position < length && text[position] == character) {
                position++;
                return true;
            }
            return false;
        }

        /** Answers 0 if there is no state. */
        private int readState() {
            int state = 0;
            for (int i = 0; i < DIRECTIONS && position < length; i++) {
                int digit = text[position] - '0';
                // As the digits rise, a next one's bit is above all that there are.
                if (digit < 0 || digit >= DIRECTIONS || (1 << digit) <= state) {
                    return state;
                }
                state |= 1 << digit;
                position++;
            }
            return state;
        }

        private int turns() {
            return starred ? DIRECTIONS : 1;
        }

        private static int turned(int state, int by) {
            return ((state << by) | (state >> (DIRECTIONS - by))) & (STATES - 1);
        }

        private boolean isNamedBefore() {
            for (int turn = 0; turn < turns(); turn++) {
                if (named[turned(from, turn)]) {
                    return true;
                }
            }
            return false;
        }

        /** Turning keeps this, so it is looked at once for all rules for which one stands. */
        private static boolean isBalanced(int before, int after) {
            boolean balanced = Integer.bitCount(before) == Integer.bitCount(after);
            for (int axis = 0; axis < AXES; axis++) {
                int momentum = 0;
                for (int d = 0; d < DIRECTIONS; d++) {
                    momentum += momentumOf(axis, d) * (((before >> d) & 1) - ((after >> d) & 1));
                }
                balanced = balanced && momentum == 0;
            }
            return balanced;
        }

        private void enterRule() {
            for (int turn = 0; turn < turns(); turn++) {
                int state = turned(from, turn);
                named[state] = true;
                book[state] = turned(even, turn);
                book[STATES + state] = turned(odd, turn);
            }
            ruleCount++;
        }
    }
}
