/** Tunnels that several tests begin with, and ways to look at a whole one. */
final class Tunnels {
    /** The momentum of a particle, by its direction. */
    static final int[] ALONG = {2, 1, -1, -2, -1, 1};
    static final int[] ACROSS = {0, 1, 1, 0, -1, -1};
    /** Columns and rows of the neighbours of column 3, row 2, by their directions. */
    static final int[][] AROUND = {{4, 2}, {3, 1}, {2, 1}, {2, 2}, {2, 3}, {3, 3}};

    private Tunnels() {
    }

    static LatticeTunnel make(int width, int height) {
        LatticeTunnel x = new LatticeTunnel();
        x.build(width, height);
        return x;
    }

    static LatticeTunnel ring(int width, int height) {
        LatticeTunnel x = make(width, height);
        x.set(0, 1);
        return x;
    }

    static LatticeTunnel typed(String text) {
        LatticeTunnel x = new LatticeTunnel();
        type(x, text);
        return x;
    }

    static void type(LatticeTunnel x, String text) {
        for (char c : text.toCharArray()) {
            x.type(c);
        }
    }

    static LatticeTunnel withBook(int width, int height, String book) {
        LatticeTunnel x = make(width, height);
        type(x, book);
        x.rules();
        return x;
    }

    /**
     * A particle between body 0 on its left and body 1 on its right. It goes to the east in even ticks: body 1
     * takes 4, 0, 4, 0, ..., and body 0 takes 0, -4, 0, -4, ...
     */
    static LatticeTunnel rattle() {
        LatticeTunnel x = make(8, 2);
        x.solid(0, 2, 0);
        x.solid(1, 4, 0);
        x.put(3, 0, 0);
        return x;
    }

    static void run(LatticeTunnel x, int ticks) {
        for (int left = ticks; left > 0; left -= 40) {
            x.run(Math.min(left, 40));
        }
    }

    /** All cells, the numbers of count() without the history and the pad, accounts, bodies, gusts, crossings. */
    static String picture(LatticeTunnel x) {
        StringBuilder all = new StringBuilder();
        for (int r = 0; r < x.count(1); r++) {
            for (int c = 0; c < x.count(0); c++) {
                all.append(x.cell(c, r)).append(' ');
            }
        }
        for (int what = 0; what <= 11; what++) {
            all.append(what == 7 || what == 8 ? 0 : x.count(what)).append(' ');
        }
        for (int what = 0; what <= 4; what++) {
            all.append(x.particles(what)).append(' ').append(x.momentum(0, what)).append(' ');
            all.append(x.momentum(1, what)).append(' ');
        }
        for (int b = 0; b < 6; b++) {
            for (int ticks = 1; ticks <= 64; ticks++) {
                all.append(x.recent(b, 0, ticks)).append(' ').append(x.recent(b, 1, ticks)).append(' ');
            }
            all.append(x.body(b, 1)).append(' ').append(x.body(b, 2)).append(' ');
        }
        for (int g = 0; g < x.count(3); g++) {
            for (int what = 0; what <= 8; what++) {
                all.append(x.gust(g, what)).append(' ');
            }
        }
        for (int c = 0; c < x.count(0); c++) {
            all.append(x.crossed(c)).append(' ');
        }
        for (int s = 0; s < 64; s++) {
            all.append(x.becomes(s, false)).append(' ').append(x.becomes(s, true)).append(' ');
        }
        return all.toString();
    }

    /** All that can be found out about a tunnel, by taking it apart: the history, the slots and the pad too. */
    static String apart(LatticeTunnel x) {
        StringBuilder all = new StringBuilder(picture(x));
        all.append("history ").append(x.count(7)).append(", pad ").append(x.count(8));
        for (int what = 0; what <= 2; what++) {
            all.append(' ').append(x.fault(what));
        }
        for (int left = x.count(7); left > 0; left--) {
            all.append("\nundo ").append(Check.outcome(() -> x.undo())).append(": ").append(picture(x));
        }
        all.append("\nundo ").append(Check.outcome(() -> x.undo()));
        for (int slot = 0; slot <= 1; slot++) {
            int s = slot;
            all.append("\nslot ").append(Check.outcome(() -> x.restore(s))).append(": ").append(picture(x));
        }
        all.append("\nrules ").append(Check.outcome(() -> x.rules())).append(": ").append(picture(x));
        return all.toString();
    }

    /** A tunnel in which nothing is as at first. */
    static LatticeTunnel busy() {
        LatticeTunnel x = withBook(9, 6, "*03>25|14;*0134>1245");
        x.set(1, 1);
        x.block(2, 4, 2, 5, 3);
        x.fill(45, 0, 0, 2, 5);
        x.inlet(1, 4, 0, 3, 2);
        x.drain(7, 0, 2, 1, 2, 1);
        x.run(7);
        return x;
    }

    /** A call that throws changes nothing and records nothing; what it throws is looked at by the caller. */
    static void unchanged(String what, LatticeTunnel x, Check.Call call) {
        String before = picture(x);
        int history = x.count(7);
        int pad = x.count(8);
        Check.holds(what + " throws", Check.outcome(call).endsWith("Exception"));
        Check.same(what + " changes", picture(x), before);
        Check.due(what + " records", x.count(7), history);
        Check.due(what + " in the pad", x.count(8), pad);
    }

    /** A change records the state before it, and undo brings that back. */
    static void isChange(String what, LatticeTunnel x, Check.Call call) {
        String before = picture(x);
        int history = x.count(7);
        call.answer();
        Check.due(what + " records", x.count(7), Math.min(4, history + 1));
        Check.due(what + " undone", x.undo(), Math.min(3, history));
        Check.same(what + " undone", picture(x), before);
    }

    static void isNoChange(String what, LatticeTunnel x, Check.Call call) {
        String before = picture(x);
        int history = x.count(7);
        call.answer();
        Check.same(what + " changes", picture(x), before);
        Check.due(what + " records", x.count(7), history);
    }
}
