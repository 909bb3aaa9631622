import java.util.Random;

/** Runs of calls by chance (the same ones every time) on LatticeTunnel and on the plain model beside it. */
public final class AgainstPlainTest {
    private static final int RUNS = 700;
    private static final int CALLS = 90;
    private static final String[] BOOKS = {
        "", "*03>14|25;*024>135", "03>14", "*0134>1245|0235", "*03>14|25", "*03>25;024>135;135>024",
        "*013>013", "03>25;14>03;25>14|14", "*02>1", "*013>024", "01>01;*0>0", "*03>14;*14>25", "30>14", "0>0|0|0",
        "*015>015|015;*0135>0124", "*", ";", "0>", "0>0;", "0>0;;0>0", "6>6", "*0235>0134|1245;*024>135;*03>25|14",
        "*0124>0135", "0123>1234", "0>0;x", "01>02;", "01>01|02", "*012345>012345", "0145>0145|0134",
        "013>125;125>013", "*013>125;*125>013", "*013>125|013;*125>013|125",
    };

    private static Random chance;
    private static LatticeTunnel x;
    private static PlainTunnel p;

    public static void main(String[] args) {
        for (int run = 0; run < RUNS && Check.wrongSoFar() < 20; run++) {
            chance = new Random(run);
            x = new LatticeTunnel();
            p = new PlainTunnel();
            start(run);
            for (int i = 0; i < CALLS && Check.wrongSoFar() < 20; i++) {
                String call = "run " + run + " call " + i + " ";
                step(call);
                if (i % 6 == 0) {
                    look(call);
                }
            }
            look("run " + run + " at the end ");
        }
        wholeLife();
        faults();
        Check.end("AgainstPlainTest");
    }

    private static void both(String call, Check.Call mine, Check.Call plain) {
        Check.same(call, Check.outcome(mine), Check.outcome(plain));
    }

    /** Mostly within the range, sometimes just beyond it. */
    private static int pick(int least, int most) {
        int r = chance.nextInt(60);
        if (r == 0) {
            return least - 1;
        }
        if (r == 1) {
            return most + 1;
        }
        if (r == 2) {
            int[] far = {Integer.MIN_VALUE, Integer.MAX_VALUE, -1000, 1000, 32, 64};
            return far[chance.nextInt(far.length)];
        }
        return least + chance.nextInt(most - least + 1);
    }

    private static int column() {
        return pick(0, p.w.width - 1);
    }

    private static int row() {
        return pick(0, p.w.height - 1);
    }

    private static void start(int run) {
        String call = "run " + run + " start ";
        if (run % 4 != 0) {
            int[] widths = {4, 5, 7, 16, 31, 32};
            int width = widths[chance.nextInt(widths.length)];
            int height = 2 + chance.nextInt(run % 3 == 0 ? 15 : 5);
            both(call + "build", () -> x.build(width, height), () -> p.build(width, height));
        }
        if (run % 2 == 0) {
            both(call + "set", () -> x.set(0, 1), () -> p.set(0, 1));
        }
        if (run % 5 != 0) {
            int body = chance.nextInt(6);
            int c = chance.nextInt(p.w.width - 1);
            int r = chance.nextInt(p.w.height - 1);
            both(call + "block", () -> x.block(body, c, r, c + 1, r + 1), () -> p.block(body, c, r, c + 1, r + 1));
        }
    }

    private static void step(String call) {
        int kind = chance.nextInt(100);
        if (kind < 24) {
            changeCells(call);
        } else if (kind < 34) {
            changeGusts(call);
        } else if (kind < 42) {
            changeBook(call);
        } else if (kind < 70) {
            ticks(call);
        } else if (kind < 84) {
            forecast(call);
        } else {
            changeAll(call);
        }
    }

    private static void changeCells(String call) {
        int b = pick(0, 5);
        int c = column();
        int r = row();
        int c2 = chance.nextInt(4) == 0 ? column() : c + chance.nextInt(4);
        int r2 = chance.nextInt(4) == 0 ? row() : r + chance.nextInt(3);
        switch (chance.nextInt(8)) {
            case 0:
                both(call + "solid", () -> x.solid(b, c, r), () -> p.solid(b, c, r));
                break;
            case 1:
                both(call + "block", () -> x.block(b, c, r, c2, r2), () -> p.block(b, c, r, c2, r2));
                break;
            case 2:
                both(call + "clear", () -> x.clear(c, r), () -> p.clear(c, r));
                break;
            case 3: {
                int dc = chance.nextBoolean() ? pick(-8, 8) : chance.nextInt(3) - 1;
                int dr = chance.nextBoolean() ? pick(-8, 8) : chance.nextInt(3) - 1;
                both(call + "shift", () -> x.shift(b, dc, dr), () -> p.shift(b, dc, dr));
                break;
            }
            case 4: {
                int d = pick(0, 5);
                both(call + "put", () -> x.put(c, r, d), () -> p.put(c, r, d));
                break;
            }
            case 5:
            case 6: {
                int s = pick(1, 63);
                both(call + "fill", () -> x.fill(s, c, r, c2, r2), () -> p.fill(s, c, r, c2, r2));
                break;
            }
            default:
                both(call + "empty", () -> x.empty(c, r, c2, r2), () -> p.empty(c, r, c2, r2));
        }
    }

    private static void changeGusts(String call) {
        int c = column();
        int r = row();
        int r2 = chance.nextBoolean() ? row() : Math.min(p.w.height - 1, r + chance.nextInt(4));
        int start = chance.nextInt(5) == 0 ? pick(0, 10000) : Math.max(0, p.w.time + chance.nextInt(12) - 4);
        int period = chance.nextInt(3) == 0 ? pick(1, 60) : 1 + chance.nextInt(6);
        int length = pick(1, Math.max(1, period));
        int g = pick(0, Math.max(0, p.w.gusts.size() - 1));
        switch (chance.nextInt(6)) {
            case 0:
            case 1:
                both(call + "inlet", () -> x.inlet(r, r2, start, period, length),
                        () -> p.inlet(r, r2, start, period, length));
                break;
            case 2:
                both(call + "fan", () -> x.fan(c, r, r2, start, period, length),
                        () -> p.fan(c, r, r2, start, period, length));
                break;
            case 3:
                both(call + "drain", () -> x.drain(c, r, r2, start, period, length),
                        () -> p.drain(c, r, r2, start, period, length));
                break;
            default:
                both(call + "drop", () -> x.drop(g), () -> p.drop(g));
        }
    }

    private static void typeText(String call, String text) {
        for (char c : text.toCharArray()) {
            both(call + "type", () -> x.type(c), () -> p.type(c));
        }
    }

    private static void lookAtFault(String call) {
        for (int what = -1; what <= 3; what++) {
            int w = what;
            both(call + "fault " + w + " of " + p.pad, () -> x.fault(w), () -> p.fault(w));
        }
    }

    private static void changeBook(String call) {
        if (chance.nextInt(3) != 0) {
            both(call + "wipe", () -> x.wipe(), () -> p.wipe());
        }
        typeText(call, BOOKS[chance.nextInt(BOOKS.length)]);
        lookAtFault(call);
        if (chance.nextBoolean()) {
            both(call + "rules", () -> x.rules(), () -> p.rules());
        }
        int s = pick(0, 63);
        boolean odd = chance.nextBoolean();
        both(call + "becomes", () -> x.becomes(s, odd), () -> p.becomes(s, odd));
    }

    private static void ticks(String call) {
        int n = chance.nextInt(6) == 0 ? pick(1, 40) : 1 + chance.nextInt(4);
        if (chance.nextInt(3) == 0) {
            both(call + "back", () -> x.back(n), () -> p.back(n));
        } else {
            both(call + "run", () -> x.run(n), () -> p.run(n));
        }
    }

    private static void forecast(String call) {
        int b = pick(0, 5);
        int n = chance.nextInt(3) == 0 ? pick(1, 40) : 1 + chance.nextInt(12);
        int g = pick(0, Math.max(0, p.w.gusts.size() - 1));
        int a = pick(0, 1);
        switch (chance.nextInt(7)) {
            case 0:
                both(call + "ahead", () -> x.ahead(b, a, n), () -> p.ahead(b, a, n));
                break;
            case 1:
            case 2: {
                int t = chance.nextInt(3) == 0 ? 60 : pick(2, 60);
                both(call + "cycle", () -> x.cycle(t, a), () -> p.cycle(t, a));
                break;
            }
            case 3: {
                int t = chance.nextBoolean() ? pick(1, 32) : 1 + chance.nextInt(5);
                int tolerance = chance.nextBoolean() ? chance.nextInt(4) : pick(0, 1000);
                int limit = pick(0, 40);
                both(call + "settles", () -> x.settles(b, t, tolerance, limit),
                        () -> p.settles(b, t, tolerance, limit));
                break;
            }
            case 4:
            case 5:
                both(call + "bestShift", () -> x.bestShift(b, n), () -> p.bestShift(b, n));
                break;
            default:
                both(call + "bestStart", () -> x.bestStart(g, b, n), () -> p.bestStart(g, b, n));
        }
    }

    private static void changeAll(String call) {
        int s = pick(0, 1);
        int b = pick(0, 5);
        switch (chance.nextInt(9)) {
            case 0: {
                int width = pick(4, 32);
                int height = pick(2, 16);
                both(call + "build", () -> x.build(width, height), () -> p.build(width, height));
                break;
            }
            case 1:
            case 2: {
                int what = pick(0, 2);
                int value = pick(0, 1);
                both(call + "set", () -> x.set(what, value), () -> p.set(what, value));
                break;
            }
            case 3:
                both(call + "zero", () -> x.zero(b), () -> p.zero(b));
                break;
            case 4:
                both(call + "save", () -> x.save(s), () -> p.save(s));
                break;
            case 5:
                both(call + "restore", () -> x.restore(s), () -> p.restore(s));
                break;
            default:
                both(call + "undo", () -> x.undo(), () -> p.undo());
        }
    }

    /** All that can be asked without a change. */
    private static void look(String call) {
        for (int c = -1; c <= p.w.width; c++) {
            int col = c;
            both(call + "crossed " + c, () -> x.crossed(col), () -> p.crossed(col));
            for (int r = -1; r <= p.w.height; r++) {
                int rw = r;
                both(call + "cell " + c + " " + r, () -> x.cell(col, rw), () -> p.cell(col, rw));
            }
        }
        for (int w = -1; w <= 12; w++) {
            int what = w;
            both(call + "count " + w, () -> x.count(what), () -> p.count(what));
            both(call + "particles " + w, () -> x.particles(what), () -> p.particles(what));
            for (int a = -1; a <= 2; a++) {
                int axis = a;
                both(call + "momentum " + a + " " + w, () -> x.momentum(axis, what), () -> p.momentum(axis, what));
            }
            for (int n = -1; n <= 6; n++) {
                int number = n;
                both(call + "gust " + n + " " + w, () -> x.gust(number, what), () -> p.gust(number, what));
                both(call + "body " + n + " " + w, () -> x.body(number, what), () -> p.body(number, what));
            }
        }
        both(call + "reversible", () -> x.reversible() ? 1 : 0, () -> p.reversible() ? 1 : 0);
        for (int i = 0; i < 12; i++) {
            int b = pick(0, 5);
            int a = pick(0, 1);
            int n = pick(1, 64);
            int half = pick(1, 32);
            int tolerance = chance.nextBoolean() ? chance.nextInt(5) : pick(0, 1000);
            int c = column();
            int r = row();
            int c2 = column();
            int r2 = row();
            both(call + "recent", () -> x.recent(b, a, n), () -> p.recent(b, a, n));
            both(call + "steady", () -> x.steady(b, half, tolerance) ? 1 : 0,
                    () -> p.steady(b, half, tolerance) ? 1 : 0);
            both(call + "density", () -> x.density(c, r, c2, r2), () -> p.density(c, r, c2, r2));
            both(call + "wind", () -> x.wind(a, c, r, c2, r2), () -> p.wind(a, c, r, c2, r2));
            both(call + "becomes", () -> x.becomes(n - 1, a == 1), () -> p.becomes(n - 1, a == 1));
        }
        for (int part = 0; part < 6; part++) {
            balance(call, part % 2);
        }
    }

    /** What came in is here, has been taken out or has left; so with the momentum. */
    private static void balance(String call, int axis) {
        Check.due(call + "particles in and out", x.particles(0) + x.particles(1),
                x.particles(2) + x.particles(3) + x.particles(4));
        Check.due(call + "momentum in and out", x.momentum(axis, 0) + x.momentum(axis, 1),
                x.momentum(axis, 2) + x.momentum(axis, 3) + x.momentum(axis, 4) + x.momentum(axis, 5));
    }

    /** As many ticks as an object can come to in its 512 calls; some gusts begin after half of them. */
    private static void wholeLife() {
        chance = new Random(512);
        x = new LatticeTunnel();
        p = new PlainTunnel();
        both("life build", () -> x.build(9, 6), () -> p.build(9, 6));
        both("life smooth", () -> x.set(1, 1), () -> p.set(1, 1));
        both("life block", () -> x.block(2, 4, 2, 5, 3), () -> p.block(2, 4, 2, 5, 3));
        both("life fill", () -> x.fill(45, 0, 0, 3, 5), () -> p.fill(45, 0, 0, 3, 5));
        both("life inlet", () -> x.inlet(0, 5, 0, 7, 4), () -> p.inlet(0, 5, 0, 7, 4));
        both("life fan", () -> x.fan(6, 0, 5, 10000, 5, 2), () -> p.fan(6, 0, 5, 10000, 5, 2));
        both("life drain", () -> x.drain(8, 1, 4, 9999, 60, 59), () -> p.drain(8, 1, 4, 9999, 60, 59));
        for (int call = 8; call <= 512; call++) {
            both("life call " + call, () -> x.run(40), () -> p.run(40));
        }
        look("life at the end ");
        both("life settles", () -> x.settles(2, 5, 9, 40), () -> p.settles(2, 5, 9, 40));
        both("life cycle", () -> x.cycle(60, 1), () -> p.cycle(60, 1));
        for (int gust = 0; gust < 3; gust++) {
            int g = gust;
            both("life bestStart", () -> x.bestStart(g, 2, 40), () -> p.bestStart(g, 2, 40));
        }
        for (int i = 0; i < 5; i++) {
            both("life undo", () -> x.undo(), () -> p.undo());
        }
        look("life after undo ");
    }

    /** Many short texts of the signs that matter. */
    private static void faults() {
        String signs = "0123345>>;|*>05;x6";
        chance = new Random(77);
        for (int i = 0; i < 20000 && Check.wrongSoFar() < 20; i++) {
            StringBuilder text = new StringBuilder();
            if (chance.nextBoolean()) {
                text.append(BOOKS[chance.nextInt(BOOKS.length)]);
                if (text.length() > 0 && chance.nextBoolean()) {
                    text.append(';').append(BOOKS[chance.nextInt(BOOKS.length)]);
                }
                if (text.length() > 0 && chance.nextBoolean()) {
                    text.setCharAt(chance.nextInt(text.length()), signs.charAt(chance.nextInt(signs.length())));
                }
            } else {
                for (int n = chance.nextInt(9); n > 0; n--) {
                    text.append(signs.charAt(chance.nextInt(signs.length())));
                }
            }
            x = new LatticeTunnel();
            p = new PlainTunnel();
            typeText("text " + i + " ", text.toString());
            lookAtFault("text " + i + " ");
            both("text " + i + " rules of " + text, () -> x.rules(), () -> p.rules());
            both("text " + i + " pad", () -> x.count(8), () -> p.count(8));
        }
    }
}
