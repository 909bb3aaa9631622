import java.util.ArrayList;
import java.util.List;

/** The edges that the document names under "Rules of collision", and of the promises 15 to 19. */
final class EdgesOfRules {
    private EdgesOfRules() {
    }

    static void all() {
        evenAndOddCells();
        unnamedStates();
        firstBook();
        characters();
        places();
        risingDigits();
        starredRules();
        starredTwice();
        firstFault();
        formWithItsEnd();
        tooEarly();
        namedBefore();
        notBalanced();
        nothingBehindTheLast();
        fullPad();
        typing();
        wiping();
        making();
    }

    // ---- helpers

    private static String digits(int state) {
        StringBuilder text = new StringBuilder();
        for (int d = 0; d < 6; d++) {
            if ((state >> d & 1) != 0) {
                text.append(d);
            }
        }
        return text.toString();
    }

    private static int greater(int state, int by) {
        int sum = 0;
        for (int d = 0; d < 6; d++) {
            int turned = d + by > 5 ? d + by - 6 : d + by;
            sum += (state >> d & 1) << turned;
        }
        return sum;
    }

    private static boolean alike(int one, int other) {
        int along = 0;
        int across = 0;
        for (int d = 0; d < 6; d++) {
            int more = (one >> d & 1) - (other >> d & 1);
            along += more * Tunnels.ALONG[d];
            across += more * Tunnels.ACROSS[d];
        }
        return Integer.bitCount(one) == Integer.bitCount(other) && along == 0 && across == 0;
    }

    private static int[] faultOf(String text) {
        LatticeTunnel x = Tunnels.typed(text);
        return new int[] {x.fault(0), x.fault(1), x.fault(2)};
    }

    private static void faultIs(String text, int position, int kind, int rule) {
        LatticeTunnel x = Tunnels.typed(text);
        Check.due("position in " + text, x.fault(0), position);
        Check.due("kind in " + text, x.fault(1), kind);
        Check.due("rule in " + text, x.fault(2), rule);
        if (kind < 0) {
            Check.due("rules of " + text, x.rules(), rulesIn(text));
            Check.due("pad after " + text, x.count(8), 0);
        } else {
            Check.noState("rules of " + text, () -> x.rules());
            Check.due("pad after " + text, x.count(8), text.length());
            Check.due("book after " + text, x.count(4), 2);
        }
    }

    private static int rulesIn(String text) {
        return text.isEmpty() ? 0 : text.length() - text.replace(";", "").length() + 1;
    }

    // ---- the rules

    private static void evenAndOddCells() {
        Check.says("if there are two, the first one in an even cell, the second one in an odd one; a cell is even or "
                + "odd in a tick as the sum of its column, its row and the time is (the time as the tick begins).");
        for (int time = 0; time <= 3; time++) {
            for (int column = 1; column <= 5; column++) {
                for (int row = 1; row <= 4; row++) {
                    LatticeTunnel x = Tunnels.withBook(7, 6, "03>14|25");
                    Tunnels.run(x, time);
                    x.fill(9, column, row, column, row);
                    x.run(1);
                    boolean odd = (column + row + time) % 2 == 1;
                    Check.due("at " + column + ", " + row + ", " + time + " upward",
                            x.density(0, row - 1, 6, row - 1), 1);
                    int wind = x.wind(0, 0, row - 1, 6, row - 1);
                    Check.due("at " + column + ", " + row + ", " + time, wind, odd ? -1 : 1);
                }
            }
        }
        // The last column and row, and a time above all that a single call brings.
        LatticeTunnel x = Tunnels.make(32, 16);
        Tunnels.run(x, 1001);
        x.fill(9, 30, 15, 31, 15);
        x.run(1);
        // Even: 14 of (30, 15); odd: 25 of (31, 15). What goes down comes back from the wall.
        Check.due("even in the last row", x.cell(31, 14), 2 + 4);
        Check.due("back from the wall, even", x.cell(30, 15), 2);
        Check.due("back from the wall, odd", x.cell(31, 15), 4);
    }

    private static void unnamedStates() {
        Check.says("A state that no rule names stays as it is.");
        for (int state = 0; state < 64; state++) {
            for (String book : new String[] {"", "012>012", "03>14|03"}) {
                LatticeTunnel x = Tunnels.withBook(8, 6, book);
                int even = book.startsWith("03") && state == 9 ? 18 : state;
                Check.due(state + " in an even cell by " + book, x.becomes(state, false), even);
                Check.due(state + " in an odd cell by " + book, x.becomes(state, true), state);
            }
            LatticeTunnel x = Tunnels.withBook(8, 6, "");
            if (state > 0) {
                x.fill(state, 3, 2, 3, 2);
            }
            x.run(1);
            for (int d = 0; d < 6; d++) {
                Check.due(state + " to " + d, x.cell(Tunnels.AROUND[d][0], Tunnels.AROUND[d][1]), state & 1 << d);
            }
        }
    }

    private static void firstBook() {
        Check.says("The book at first is *03>14|25;*024>135");
        LatticeTunnel x = new LatticeTunnel();
        for (int state = 0; state < 64; state++) {
            int even = state;
            int odd = state;
            if (state == 9 || state == 18 || state == 36) {
                even = greater(state, 1);
                odd = greater(state, 2);
            } else if (state == 21 || state == 42) {
                even = greater(state, 1);
                odd = even;
            }
            Check.due(state + " in an even cell", x.becomes(state, false), even);
            Check.due(state + " in an odd cell", x.becomes(state, true), odd);
        }
        Check.due("rules", x.count(4), 2);
        Tunnels.type(x, "*03>14|25;*024>135");
        Check.due("typed", x.rules(), 2);
        Check.same("the same", Tunnels.picture(x), Tunnels.picture(new LatticeTunnel()));
    }

    private static void characters() {
        Check.says("book = [ rule { \";\" rule } ]");
        // Behind each beginning, what may come: any other character is a fault there.
        String[][] all = {
            {"", "*012345"}, {"*", "012345"}, {"0", "12345>"}, {"2", "345>"}, {"5", ">"}, {"05", ">"}, {"*4", "5>"},
            {"012345", ">"}, {"2>", "012345"}, {"*2>", "012345"}, {"02>0", "12345|;"}, {"02>01", "2345|;"},
            {"5>5", "|;"}, {"012345>012345", "|;"}, {"02>02|", "012345"}, {"02>02|0", "12345;"},
            {"02>02|02", "345;"}, {"5>5|5", ";"}, {"5>5|012345", ";"}, {"5>5;", "*012345"}, {"5>5|5;", "*012345"},
            {"*5>5;*03>14;", "*012345"},
            {"5>5;*", "012345"}, {"5>5;0", "12345>"}, {"5>5;0>", "012345"},
        };
        for (String[] each : all) {
            for (char c = 33; c <= 126; c++) {
                int[] fault = faultOf(each[0] + c);
                boolean there = fault[1] == 1 && fault[0] == each[0].length();
                Check.due(each[0] + c + " has its fault at the end", there ? 1 : 0, each[1].indexOf(c) < 0 ? 1 : 0);
            }
        }
    }

    private static void places() {
        Check.says("rule = [ \"*\" ] state \">\" state [ \"|\" state ]");
        faultIs("0>0", -1, -1, -1);
        faultIs("*0>0", -1, -1, -1);
        faultIs("0>0|0", -1, -1, -1);
        faultIs("*0>0|0", -1, -1, -1);
        faultIs("0>0;1>1", -1, -1, -1);
        faultIs("*0>0|0;*01>01|01;*02>02|02", -1, -1, -1);
        faultIs("0>*0", 2, 1, 0);
        faultIs("0>0|*0", 4, 1, 0);
        faultIs("**0>0", 1, 1, 0);
        faultIs("0>0*", 3, 1, 0);
        faultIs("0>0||0", 4, 1, 0);
        faultIs("0>>0", 2, 1, 0);
        faultIs("0>0>0", 3, 1, 0);
        faultIs("0>0|0|0", 5, 1, 0);
        faultIs("0>0|0>0", 5, 1, 0);
        faultIs("0|0>0", 1, 1, 0);
        faultIs("0;0>0", 1, 1, 0);
        faultIs("0>;1>1", 2, 1, 0);
        faultIs("0>0|;1>1", 4, 1, 0);
        faultIs(";0>0", 0, 1, 0);
        faultIs("*;0>0", 1, 1, 0);
    }

    private static void risingDigits() {
        Check.says("The digits of a state are 0 to 5, each one greater than the one before.");
        for (int one = 0; one <= 5; one++) {
            for (int next = 0; next <= 5; next++) {
                String state = "" + one + next;
                int good = next > one ? 1 : 0;
                Check.due("in front " + state, faultOf(state + ">" + state)[0] == 1 ? 0 : 1, good);
                Check.due("behind " + state, faultOf("12>" + state)[1] == 1 ? 0 : 1, good);
                Check.due("behind that " + state, faultOf("12>12|" + state)[1] == 1 ? 0 : 1, good);
            }
        }
        for (int state = 1; state < 64; state++) {
            String s = digits(state);
            faultIs(s + ">" + s, -1, -1, -1);
            faultIs("*" + s + ">" + s + "|" + s, -1, -1, -1);
            faultIs(s + "6>" + s, s.length(), 1, 0);
            faultIs(s + s.charAt(s.length() - 1) + ">" + s, s.length(), 1, 0);
            faultIs(s + ">" + s + "6", 2 * s.length() + 1, 1, 0);
        }
        faultIs("/>0", 0, 1, 0);
        faultIs(":>0", 0, 1, 0);
    }

    private static void starredRules() {
        Check.says("A rule with \"*\" stands for six rules: those in which each direction is greater by 0, 1, 2, 3, "
                + "4, 5 (6 less where it would be above 5); of these some may be the same.");
        for (int from = 1; from < 64; from++) {
            for (int to = 1; to < 64; to++) {
                if (alike(from, to)) {
                    starredIs(from, to, from);
                    starredIs(from, from, to);
                    plainIs(from, to);
                }
            }
        }
    }

    private static void starredIs(int from, int even, int odd) {
        String book = "*" + digits(from) + ">" + digits(even) + "|" + digits(odd);
        LatticeTunnel x = Tunnels.typed(book);
        Check.due("rules of " + book, x.rules(), 1);
        Check.due("count of " + book, x.count(4), 1);
        int[][] due = new int[2][64];
        for (int state = 0; state < 64; state++) {
            due[0][state] = state;
            due[1][state] = state;
        }
        for (int by = 0; by < 6; by++) {
            due[0][greater(from, by)] = greater(even, by);
            due[1][greater(from, by)] = greater(odd, by);
        }
        for (int state = 0; state < 64; state++) {
            Check.due(book + " even " + state, x.becomes(state, false), due[0][state]);
            Check.due(book + " odd " + state, x.becomes(state, true), due[1][state]);
        }
    }

    private static void plainIs(int from, int to) {
        String book = digits(from) + ">" + digits(to);
        LatticeTunnel x = Tunnels.typed(book);
        Check.due("rules of " + book, x.rules(), 1);
        for (int state = 0; state < 64; state++) {
            int due = state == from ? to : state;
            Check.due(book + " even " + state, x.becomes(state, false), due);
            Check.due(book + " odd " + state, x.becomes(state, true), due);
        }
    }

    private static void starredTwice() {
        Check.says("of these some may be the same.");
        // The six of 03 are three, those of 024 two, and those of 012345 one.
        faultIs("*03>14", -1, -1, -1);
        faultIs("*0134>1245", -1, -1, -1);
        faultIs("*024>135", -1, -1, -1);
        faultIs("*012345>012345", -1, -1, -1);
        faultIs("*03>14;*024>135;*012345>012345;*0134>0235", -1, -1, -1);
        LatticeTunnel x = Tunnels.withBook(4, 2, "*03>14;*024>135;*012345>012345;*0134>0235");
        Check.due("counts once", x.count(4), 4);
    }

    // ---- faults

    private static void firstFault() {
        Check.says("The rules of a text are read one after the other, and the first one with a fault is told.");
        // Behind a rule without fault, with each of the kinds, and then with one of each kind again.
        String[] bad = {"x", "0>0", "1>2"};
        int[][] faults = {{0, 1}, {0, 2}, {2, 3}};
        for (int first = 0; first < 3; first++) {
            for (int second = 0; second < 3; second++) {
                String text = "0>0;" + bad[first] + ";" + bad[second];
                faultIs(text, 4 + faults[first][0], faults[first][1], 1);
                faultIs("0>0;2>2;*01>01;" + bad[first] + ";" + bad[second] + ";",
                        15 + faults[first][0], faults[first][1], 3);
            }
        }
        faultIs("1>2;0>0;0>0;x", 2, 3, 0);
        faultIs("x;1>2", 0, 1, 0);
    }

    private static void formWithItsEnd() {
        Check.says("First its form, with its end (a \";\" behind which a rule comes, or the end of the text): kind 1, "
                + "the position of the first character that cannot stand at its place");
        // The form of a rule comes before what is told of its states, to its very end.
        faultIs("0>1x", 3, 1, 0);
        faultIs("0>1|", 4, 1, 0);
        faultIs("0>1|2x", 5, 1, 0);
        faultIs("0>0;0>0x", 7, 1, 1);
        faultIs("0>0;0>1|", 8, 1, 1);
        faultIs("0>0;*0", 6, 1, 1);
        faultIs("0>0:1>1", 3, 1, 0);
        faultIs("0>0,1>1", 3, 1, 0);
        faultIs("0>0*1>1", 3, 1, 0);
        // The form of the next rule is the next rule's.
        faultIs("0>1;1>1x", 2, 3, 0);
        faultIs("0>1;x", 2, 3, 0);
        faultIs("0>0;x", 4, 1, 1);
    }

    private static void tooEarly() {
        Check.says("or the length of the text if it ends too early.");
        String[] early = {"*", "0", "012345", "*0", "0>", "*0>", "0>0|", "*01>01|"};
        for (String each : early) {
            faultIs(each, each.length(), 1, 0);
            faultIs("5>5;" + each, 4 + each.length(), 1, 1);
            faultIs("5>5;4>4;" + each, 8 + each.length(), 1, 2);
        }
    }

    private static void namedBefore() {
        Check.says("Then kind 2, the position of its first character (of the \"*\" if it has one), if the state in "
                + "front of its \">\", or of a rule for which it stands, is in front of the \">\" of a rule before, or "
                + "of one for which that stands.");
        for (int one = 1; one < 64; one++) {
            for (int other = 1; other < 64; other++) {
                boolean turned = false;
                for (int by = 0; by < 6; by++) {
                    turned = turned || greater(one, by) == other;
                }
                String plainOne = digits(one) + ">" + digits(one);
                String plainOther = digits(other) + ">" + digits(other);
                namedIs(plainOne + ";", plainOther, one == other);
                namedIs("*" + plainOne + ";", plainOther, turned);
                namedIs(plainOne + ";", "*" + plainOther, turned);
                namedIs("*" + plainOne + ";", "*" + plainOther, turned);
            }
        }
        // Only what stands in front counts, and any rule before, not the one before alone.
        faultIs("03>14;25>14;14>03", -1, -1, -1);
        faultIs("03>14;25>14;14>03;25>25", 18, 2, 3);
        faultIs("0>0;*1>1", 4, 2, 1);
        faultIs("*1>1;0>0", 5, 2, 1);
        // Kind 2 comes before kind 3 of the same rule.
        faultIs("0>0;0>1", 4, 2, 1);
        faultIs("0>0;*3>1|2", 4, 2, 1);
    }

    private static void namedIs(String first, String second, boolean twice) {
        int[] fault = faultOf(first + second);
        Check.due("position in " + first + second, fault[0], twice ? first.length() : -1);
        Check.due("kind in " + first + second, fault[1], twice ? 2 : -1);
        Check.due("rule in " + first + second, fault[2], twice ? 1 : -1);
    }

    private static void notBalanced() {
        Check.says("Then kind 3, the position of the first character of the first state behind \">\" that has not as "
                + "many particles and the same momentum as the state in front of \">\".");
        for (int from = 1; from < 64; from++) {
            String front = digits(from);
            for (int to = 1; to < 64; to++) {
                boolean good = alike(from, to);
                int first = front.length() + 1;
                int second = first + front.length() + 1;
                balanceIs(front + ">" + digits(to), good ? -1 : first);
                balanceIs("*" + front + ">" + digits(to), good ? -1 : first + 1);
                balanceIs(front + ">" + front + "|" + digits(to), good ? -1 : second);
                balanceIs(front + ">" + digits(to) + "|" + front, good ? -1 : first);
                balanceIs(front + ">" + digits(to) + "|" + digits(to), good ? -1 : first);
            }
        }
    }

    private static void balanceIs(String text, int position) {
        int[] fault = faultOf(text);
        Check.due("position in " + text, fault[0], position);
        Check.due("kind in " + text, fault[1], position < 0 ? -1 : 3);
        Check.due("rule in " + text, fault[2], position < 0 ? -1 : 0);
    }

    private static void nothingBehindTheLast() {
        Check.says("A \";\" behind which the text ends is a fault of kind 1 of the rule that does not come.");
        faultIs("0>0;", 4, 1, 1);
        faultIs("0>0|0;", 6, 1, 1);
        faultIs("*03>14|25;*024>135;", 19, 1, 2);
        faultIs("0>0;;", 4, 1, 1);
        faultIs(";", 0, 1, 0);
        // So the rule in front of it is read first, with all that can be told of it.
        faultIs("0>1;", 2, 3, 0);
        faultIs("0>0;0>0;", 4, 2, 1);
    }

    private static void fullPad() {
        Check.says("if the pad has 80 characters");
        String most = "01>01;12>12;23>23;34>34;45>45;05>05;02>02;13>13;24>24;35>35;04>04;15>15;03>03|03";
        Check.due("a text of 80", most.length(), 80);
        faultIs(most, -1, -1, -1);
        LatticeTunnel x = Tunnels.typed(most);
        Check.noState("one more", () -> x.type(';'));
        Check.due("rules", x.rules(), 13);
        Check.due("count", x.count(4), 13);
        Check.due("typed again", x.type('0'), 1);
        // The 80th character is a fault, or one is missing behind it.
        String nearly = most.substring(0, 79);
        faultIs(nearly + "x", 79, 1, 12);
        faultIs(nearly + "|", 79, 1, 12);
        faultIs(nearly + "4", 78, 3, 12);
        faultIs(nearly + ";", 78, 3, 12);
        String early = "0>0|0;" + most.substring(0, 74);
        faultIs(early, 80, 1, 13);
        faultIs("01>01;12>12;23>23;34>34;45>45;05>05;02>02;13>13;24>24;35>35;0>0;1>1;2>2;3>3;4>4;", 80, 1, 15);
        StringBuilder ends = new StringBuilder();
        while (ends.length() < 80) {
            ends.append(';');
        }
        faultIs(ends.toString(), 0, 1, 0);
    }

    // ---- promises 15 to 19

    private static void typing() {
        Check.says("Appends a character to the pad.");
        Check.says("Returns the length of the pad.");
        for (int c = -300; c <= 400; c++) {
            LatticeTunnel x = new LatticeTunnel();
            int character = c;
            if (c >= 33 && c <= 126) {
                Check.due("character " + c, x.type(c), 1);
            } else {
                Check.noArgument("character " + c, () -> x.type(character));
                Check.due("the pad after " + c, x.count(8), 0);
            }
            Check.due("no change", x.count(7), 0);
        }
        // Great numbers whose last bits are those of a good character.
        LatticeTunnel x = new LatticeTunnel();
        for (int c : new int[] {65536 + 48, 256 + 48, -65536 + 48, Integer.MIN_VALUE + 48}) {
            Check.noArgument("character " + c, () -> x.type(c));
        }
        for (int i = 1; i <= 80; i++) {
            Check.due("length", x.type(33 + i), i);
        }
        for (int i = 0; i < 3; i++) {
            Check.noState("full", () -> x.type(48));
            Check.due("full", x.count(8), 80);
        }
        Check.due("wiped", x.wipe(), 80);
        Check.due("begun again", x.type(126), 1);
    }

    private static void wiping() {
        Check.says("Empties the pad, and returns the length that it had.");
        LatticeTunnel x = new LatticeTunnel();
        Check.due("an empty one", x.wipe(), 0);
        for (int length = 1; length <= 80; length++) {
            for (int i = 0; i < length; i++) {
                x.type('7');
            }
            Check.due("of length " + length, x.wipe(), length);
            Check.due("then", x.count(8), 0);
            Check.due("no fault", x.fault(1), -1);
        }
        Check.due("no change", x.count(7), 0);
        Check.due("the book stays", x.count(4), 2);
    }

    private static void making() {
        Check.says("NONE if the text has no fault (also if it is empty).");
        faultIs("", -1, -1, -1);
        Check.says("Makes the text in the pad the book of rules, and empties the pad. This is a change.");
        Check.says("Returns how many rules the text has (one with \"*\" counts once).");
        LatticeTunnel x = new LatticeTunnel();
        List<String> books = new ArrayList<>(List.of("0>0", "", "*0>0;*01>01", "*03>14|25;*024>135", "14>03"));
        int made = 0;
        for (String book : books) {
            Tunnels.type(x, book);
            Check.due("rules of " + book, x.rules(), rulesIn(book));
            made++;
            Check.due("the pad", x.count(8), 0);
            Check.due("history", x.count(7), Math.min(4, made));
            // Nothing of a book before stays.
            LatticeTunnel fresh = Tunnels.typed(book);
            fresh.rules();
            Check.same("only " + book, Tunnels.picture(x), Tunnels.picture(fresh));
        }
        Check.says("if the text has a fault (then it stays)");
        for (String bad : new String[] {"0>0;", "x", "0>1", "0>0;0>0"}) {
            Tunnels.type(x, bad);
            Check.noState("a fault in " + bad, () -> x.rules());
            Check.due("it stays", x.wipe(), bad.length());
            Check.due("the book stays", x.becomes(18, false), 9);
        }
        // A text with a fault can be typed on until it has none.
        Tunnels.type(x, "0>0;");
        Check.noState("not yet", () -> x.rules());
        Tunnels.type(x, "1>1");
        Check.due("now", x.rules(), 2);
        // Undo brings the book back, not the pad.
        x.undo();
        Check.due("the book before", x.becomes(18, false), 9);
        Check.due("the pad", x.count(8), 0);
        Check.says("Tells what a state becomes by the rules.");
        for (int state = 0; state < 64; state++) {
            Check.due("none by no rules", Tunnels.withBook(4, 2, "").becomes(state, state % 2 == 1), state);
        }
    }
}
