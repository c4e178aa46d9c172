/**
 * The day at its edges: for each sentence of the document that names a boundary case of the light, the shade,
 * the falls and what is asked of them a test of its own, with the sentence's words.
 */
public final class DayBoundaryTest {
    private static int wrong = 0;
    private static int asked = 0;
    private static int sentences = 0;
    private static String words = "";

    interface Case {
        void run();
    }

    private static void sentence(String told, Case c) {
        words = told;
        sentences++;
        c.run();
    }

    private static void due(String call, long got, long want) {
        asked++;
        if (got != want) {
            wrong++;
            System.out.println("\"" + words + "\": " + call + " answered " + got + ", due is " + want);
        }
    }

    private static void due(String call, boolean got, boolean want) {
        due(call, got ? 1 : 0, want ? 1 : 0);
    }

    private static void feed(ShadeBeams x, String text) {
        for (int i = 0; i < text.length(); i += 20) {
            int[] n = new int[5];
            for (int k = 0; k < 20; k++) {
                int c = i + k < text.length() ? text.charAt(i + k) : 0;
                n[k / 4] = n[k / 4] << 8 | c;
            }
            x.feed(n[0], n[1], n[2], n[3], n[4]);
        }
    }

    private static ShadeBeams street(String text) {
        ShadeBeams x = new ShadeBeams();
        feed(x, text);
        due("street '" + text + "' is read", x.street(text.length()) >= 0, true);
        return x;
    }

    private static ShadeBeams law(ShadeBeams x, String text) {
        feed(x, text);
        due("law '" + text + "' is read", x.law(text.length()), 1);
        return x;
    }

    private static ShadeBeams moves(ShadeBeams x, String text) {
        feed(x, text);
        due("moves '" + text + "' are read", x.moves(text.length()) >= 0, true);
        return x;
    }

    private static ShadeBeams book(ShadeBeams x, String text) {
        feed(x, text);
        due("book '" + text + "' is read", x.book(text.length()) >= 0, true);
        return x;
    }

    /** Cells 1 to 9 lie in the shade of the post on 0 in all hours and bear 20 each. */
    private static final String SHADY = "wide 10;post 0 9;sun 0 1 10;";

    /** Without light only the posts bear. */
    private static final String DARK = "wide 10;post 0 9;post 3 9;";

    // ---------------------------------------------------------------- light and shade

    private static String shadeOf(ShadeBeams x, int post, int hour) {
        StringBuilder s = new StringBuilder();
        for (int c = 0; c < x.told(0); c++) {
            if (x.shade(c, post, hour)) {
                s.append(c).append(' ');
            }
        }
        return s.toString().trim();
    }

    private static void dueShade(ShadeBeams x, int post, int hour, String want) {
        String got = shadeOf(x, post, hour);
        asked++;
        if (!got.equals(want)) {
            wrong++;
            System.out.println("\"" + words + "\": the shade in hour " + hour + " lies on '" + got + "', due is '" + want + "'");
        }
    }

    private static void shadows() {
        sentence("lies on its H times N by 10 (cut) CELLS next to it, as D says", () -> {
            dueShade(street("wide 9;post 4 3;sun 0 1 13;"), 0, 0, "5 6 7");
            dueShade(street("wide 9;post 4 3;sun 0 0 13;"), 0, 0, "1 2 3");
            dueShade(street("wide 9;post 4 1;sun 0 1 10;"), 0, 0, "5");
            dueShade(street("wide 9;post 4 1;sun 0 1 9;"), 0, 0, "");
            dueShade(street("wide 9;post 4 9;sun 0 0 1;"), 0, 0, "");
            dueShade(street("wide 9;post 4 10;sun 0 0 1;"), 0, 0, "3");
            dueShade(street("wide 9;post 4 99;sun 0 1 0;"), 0, 0, "");
        });
        sentence("as far as there are CELLS", () -> {
            dueShade(street("wide 9;post 4 99;sun 0 1 99;"), 0, 0, "5 6 7 8");
            dueShade(street("wide 9;post 4 99;sun 0 0 99;"), 0, 0, "0 1 2 3");
            dueShade(street("wide 9;post 4 4;sun 0 1 10;"), 0, 0, "5 6 7 8");
            dueShade(street("wide 9;post 4 4;sun 0 0 10;"), 0, 0, "0 1 2 3");
            dueShade(street("wide 9;post 8 99;sun 0 1 99;"), 0, 0, "");
            dueShade(street("wide 9;post 0 99;sun 0 0 99;"), 0, 0, "");
            due("all of 40 cells but its own", street("wide 40;post 0 99;sun 0 1 99;").share(0), 24 * 39);
            due("all of 40 cells but its own", street("wide 40;post 39 99;sun 0 0 99;").share(0), 24 * 39);
            String ten = "post 9 1;post 8 1;post 7 1;post 6 1;post 5 1;post 4 1;post 3 1;post 2 1;post 1 1;post 0 5;";
            dueShade(street("wide 40;" + ten + "sun 0 1 10;"), 0, 23, "10");
            dueShade(street("wide 40;" + ten + "sun 0 1 10;"), 8, 23, "2");
            dueShade(street("wide 40;" + ten + "sun 0 1 10;"), 9, 23, "1 2 3 4 5");
        });
        sentence("if there is none, a MOON's", () -> {
            ShadeBeams x = street("wide 9;post 4 2;sun 6 0 10;dusk 8;moon 2 1 15;");
            x.day(1);
            dueShade(x, 0, 5, "5 6 7");
            dueShade(x, 0, 6, "2 3");
            dueShade(x, 0, 8, "5 6 7");
            due("direction", x.light(5, 2), 1);
            x.day(2);
            dueShade(x, 0, 5, "");
            due("0 of none", x.light(5, 0) + x.light(5, 1) + x.light(5, 2), 0);
            x.day(1);
            dueShade(x, 0, 5, "5 6 7");
        });
        sentence("a CELL BEARS 999, if a POST is on it", () -> {
            ShadeBeams x = law(street("wide 9;post 4 5;post 3 5;sun 0 1 10;cloud 9 9;"), "7");
            due("with a shade on it", x.bears(4, 0), 999);
            due("without", x.bears(3, 0), 999);
            due("in a cloud", x.bears(4, 9), 999);
            due("beside it", x.bears(5, 0), 7);
        });
        sentence("what the LAW says, 0 at least, 999 at most; else 0", () -> {
            ShadeBeams x = street("wide 9;post 4 2;sun 0 1 10;");
            due("as the law without a text", x.bears(6, 0), 20);
            due("no shade", x.bears(7, 0), 0);
            due("0", law(x, "0").bears(5, 0), 0);
            due("below 0", law(x, "0-1").bears(5, 0), 0);
            due("999", law(x, "999").bears(5, 0), 999);
            due("above 999", law(x, "999+1").bears(5, 0), 999);
            due("no shade", x.bears(7, 0), 0);
        });
        sentence("shades (how many shadows are on the CELL), tall (H of the highest POST that throws one there)", () -> {
            ShadeBeams x = street("wide 9;post 0 5;post 1 3;post 2 99;sun 0 1 10;sun 9 0 10;");
            law(x, "shades*100+tall");
            due("three on 3 and 4", x.bears(3, 0), 399);
            due("two on 5", x.bears(5, 0), 299);
            due("one on 6", x.bears(6, 0), 199);
            x.build(2, 1);
            due("the first is highest", x.bears(3, 0), 305);
            x.build(0, 1);
            due("the second", x.bears(3, 0), 203);
            due("it alone", x.bears(4, 0), 103);
            due("to the left none is free", x.summed(9, 0), 3 * 999);
        });
        sentence("hour; lamp (1, if a LAMP reaches the CELL, else 0)", () -> {
            ShadeBeams x = law(street(SHADY + "lamp 5 1;cloud 9 10;"), "hour*10+lamp");
            due("hour 0", x.bears(1, 0), 0);
            due("hour 0 by a lamp", x.bears(6, 0), 1);
            due("hour 23", x.bears(7, 23), 230);
            due("hour 23 by a lamp", x.bears(4, 23), 231);
            due("in a cloud the hour that is", x.bears(4, 10), 101);
        });
    }

    private static void clouds() {
        sentence("on CELLS that a LAMP reaches (R CELLS to both sides, and X)", () -> {
            dueShade(street(SHADY + "cloud 5 5;lamp 5 2;"), 0, 5, "3 4 5 6 7");
            dueShade(street(SHADY + "cloud 5 5;lamp 5 0;"), 0, 5, "5");
            dueShade(street(SHADY + "cloud 5 5;lamp 0 9;"), 0, 5, "1 2 3 4 5 6 7 8 9");
            dueShade(street(SHADY + "cloud 5 5;lamp 9 8;"), 0, 5, "1 2 3 4 5 6 7 8 9");
            dueShade(street(SHADY + "cloud 5 5;lamp 9 7;lamp 1 0;"), 0, 5, "1 2 3 4 5 6 7 8 9");
            dueShade(street(SHADY + "cloud 5 5;"), 0, 5, "");
            ShadeBeams x = law(street("wide 40;post 39 99;sun 0 0 99;cloud 23 23;lamp 39 9;"), "20+lamp");
            due("of 40 cells 30 to 38", x.summed(23, 0), 999 + 9 * 21);
            due("its row", x.row(23, 0), 10);
            due("its row", x.row(23, 1), 30);
            due("the others", x.bare(23, 23), 30);
            due("without a cloud", x.summed(0, 0), 999 + 9 * 21 + 30 * 20);
            due("not the first cell", x.bears(0, 0), 20);
            ShadeBeams y = law(street("wide 9;post 8 9;sun 0 0 10;cloud 5 5;lamp 2 1;"), "20+lamp");
            due("not the first cell", y.bears(0, 5), 0);
            due("not the first cell", y.bears(0, 4), 20);
            due("the next one", y.bears(1, 5), 21);
        });
        sentence("in the last HOUR ahead of the CLOUD lies there yet", () -> {
            ShadeBeams x = street("wide 9;post 4 2;sun 0 1 10;sun 4 0 10;sun 6 1 10;lamp 4 9;cloud 5 8;");
            dueShade(x, 0, 3, "5 6");
            dueShade(x, 0, 5, "2 3");
            dueShade(x, 0, 8, "2 3");
            dueShade(x, 0, 9, "5 6");
            dueShade(street("wide 9;post 4 2;sun 5 1 10;lamp 4 9;cloud 5 8;"), 0, 8, "");
            dueShade(street("wide 9;post 4 2;sun 0 1 10;dusk 5;lamp 4 9;cloud 5 23;"), 0, 23, "5 6");
            dueShade(street("wide 9;post 4 2;moon 1 0 10;sun 5 0 10;lamp 4 9;cloud 5 5;"), 0, 5, "5 6");
        });
        sentence("none, if it began in HOUR 0", () -> {
            ShadeBeams x = street(SHADY + "lamp 4 9;cloud 0 2;");
            dueShade(x, 0, 0, "");
            dueShade(x, 0, 2, "");
            dueShade(x, 0, 3, "1 2 3 4 5 6 7 8 9");
            dueShade(street(SHADY + "lamp 4 9;cloud 1 2;"), 0, 2, "1 2 3 4 5 6 7 8 9");
            dueShade(street(SHADY + "lamp 4 9;cloud 0 23;"), 0, 23, "");
        });
        sentence("CLOUDS that touch or share HOURS are one", () -> {
            String post = "wide 9;post 4 2;sun 0 1 10;sun 7 0 10;lamp 4 9;";
            dueShade(street(post + "cloud 5 6;cloud 7 8;"), 0, 8, "5 6");
            dueShade(street(post + "cloud 7 8;cloud 5 6;"), 0, 7, "5 6");
            dueShade(street(post + "cloud 5 7;cloud 6 9;"), 0, 9, "5 6");
            dueShade(street(post + "cloud 5 9;cloud 8 8;"), 0, 9, "5 6");
            dueShade(street(post + "cloud 0 6;cloud 7 9;"), 0, 9, "");
            dueShade(street(post + "cloud 5 6;cloud 8 9;"), 0, 9, "2 3");
            dueShade(street(post + "cloud 5 6;cloud 8 9;"), 0, 6, "5 6");
        });
    }

    // ---------------------------------------------------------------- weights and falls

    private static void weights() {
        sentence("each CELL's by how far it is from the other end (whole fractions, by L less 1)", () -> {
            ShadeBeams x = street("wide 20;beam 0 2 9;beam 0 20 1;load 1 1 1;beam 0 5 1;load 2 2 7;beam 0 5 1;load 3 4 7;");
            dueEnds(x, 0, 9, 1, 9, 1);
            dueEnds(x, 1, 208, 19, 191, 19);
            dueEnds(x, 2, 6, 1, 6, 1);
            dueEnds(x, 3, 5, 2, 19, 2);
            x.put(0, 0, 99);
            dueEnds(x, 0, 108, 1, 9, 1);
            x.put(0, 1, 98);
            dueEnds(x, 0, 108, 1, 107, 1);
        });
        sentence("all its weight and loads (the most there can be)", () -> {
            ShadeBeams x = street("wide 20;post 0 1;post 19 1;beam 0 20 9;");
            for (int p = 0; p < 20; p++) {
                due("put", x.put(0, p, 99), 0);
            }
            due("all", x.beam(0, 3), 20 * 108);
            dueEnds(x, 0, 1080, 1, 1080, 1);
            due("more than a post bears", x.falls(0), 0);
            x.undo();
            due("left", x.puts(0, 0, 0), 1080);
            due("right", x.puts(0, 1, 0), 1080 - 99);
        });
        sentence("What rests on a CELL: above, below, in least terms", () -> {
            // Left ends of 20, 18, 17, 14, 12, 10, 8 and 6 cells, a load of 1 next to each.
            ShadeBeams x = street("post 0 99;sun 0 1 10;beam 0 20 1;beam 0 18 1;beam 0 17 1;beam 0 14 1;beam 0 12 1;beam 0 10 1;"
                    + "beam 0 8 1;beam 0 6 1;load 0 1 1;load 1 1 1;load 2 1 1;load 3 1 1;load 4 1 1;load 5 1 1;load 6 1 1;load 7 1 1;");
            due("none falls", x.fallen(), 0);
            due("above", x.rests(0, 23, 0), 13898703913L);
            due("below", x.rests(0, 23, 1), 232792560L);
            due("slack above", x.slack(0, 0, 0), 999 * 232792560L - 13898703913L);
            due("slack below", x.slack(0, 0, 1), 232792560L);
            due("a right end", x.rests(19, 0, 0), 191);
            due("a right end", x.rests(19, 0, 1), 19);
            due("nothing", x.rests(1, 0, 0), 0);
            due("nothing", x.rests(1, 0, 1), 1);
        });
    }

    /** Eight left ends on cell 1, of 20, 18, 17, 14, 12, 10, 8 and 6 cells, each with a load next to it. */
    private static ShadeBeams eightEnds(int[] loads) {
        int[] lengths = {20, 18, 17, 14, 12, 10, 8, 6};
        StringBuilder s = new StringBuilder("wide 40;post 0 99;sun 0 1 99;");
        for (int b = 0; b < 8; b++) {
            s.append("beam 1 ").append(lengths[b]).append(" 1;");
        }
        for (int b = 0; b < 8; b++) {
            s.append("load ").append(b).append(" 1 ").append(loads[b]).append(';');
        }
        return street(s.toString());
    }

    private static void leastParts() {
        sentence("more rests than it BEARS (whole fractions: by one part of 232,792,560)", () -> {
            // 52 and a half, and each load less its part of what the beam is long: 89 and one part.
            ShadeBeams x = law(eightEnds(new int[] {4, 5, 9, 9, 2, 4, 5, 2}), "90");
            due("above", x.rests(1, 0, 0), 89 * 232792560L + 1);
            due("below", x.rests(1, 0, 1), 232792560L);
            due("none falls", x.fallen(), 0);
            due("slack", x.slack(1, 0, 0), 232792559L);
            law(x, "89");
            due("the least falls", x.fallen(), 1);
            due("no other", x.order(1), -1);
            // 105 less one part.
            ShadeBeams y = law(eightEnds(new int[] {15, 12, 7, 4, 9, 5, 2, 3}), "105");
            due("above", y.rests(1, 23, 0), 105 * 232792560L - 1);
            due("none falls", y.fallen(), 0);
            due("slack", y.slack(1, 23, 0), 1);
            due("slack, below", y.slack(1, 23, 1), 232792560L);
            law(y, "104");
            due("the least falls", y.fallen(), 1);
            ShadeBeams z = law(eightEnds(new int[] {0, 0, 8, 0, 0, 0, 0, 0}), "60");
            due("just as much", z.fallen(), 0);
            due("above", z.rests(1, 5, 0), 60);
            due("below", z.rests(1, 5, 1), 1);
            due("slack", z.slack(1, 5, 0), 0);
            due("slack, below", z.slack(1, 5, 1), 1);
        });
    }

    private static void dueEnds(ShadeBeams x, int beam, long left, long leftBelow, long right, long rightBelow) {
        due("left of " + beam, x.puts(beam, 0, 0), left);
        due("left of " + beam + ", below", x.puts(beam, 0, 1), leftBelow);
        due("right of " + beam, x.puts(beam, 1, 0), right);
        due("right of " + beam + ", below", x.puts(beam, 1, 1), rightBelow);
    }

    private static void falls() {
        sentence("while on some CELL more rests than it BEARS", () -> {
            ShadeBeams x = street(SHADY + "beam 0 2 1;load 0 1 19;");
            due("just as much", x.falls(0), -1);
            x.put(0, 1, 20);
            due("one more", x.falls(0), 0);
            due("half less", street(SHADY + "beam 0 3 1;load 0 2 18;").falls(0), -1);
            due("half more", street(SHADY + "beam 0 3 1;load 0 2 19;").falls(0), 0);
            due("on the left", street(SHADY + "beam 4 3 1;load 0 0 19;").falls(0), 0);
            due("on a post 999", heavyOnPosts(72), -1);
            due("on a post 1000", heavyOnPosts(73), 0);
            due("where nothing is borne", street("beam 0 2 1;").falls(0), 0);
        });
        sentence("of the BEAMS with an end on such a CELL the least FALLS", () -> {
            // 12 and 9 on cell 3 are one too many; without the least one the other one is borne.
            ShadeBeams x = street(SHADY + "beam 0 4 6;beam 3 3 6;beam 2 3 1;");
            due("the least", x.fallen(), 1);
            // Three of 18 on one cell: two fall, the last one stays.
            ShadeBeams y = street(SHADY + "beam 3 4 9;beam 3 4 9;beam 3 4 9;");
            due("while", y.fallen(), 3);
            due("the first", y.order(0), 0);
            due("then", y.order(1), 1);
            due("no more", y.order(2), -1);
            due("in the same hour", y.falls(1), 0);
            due("as much as one puts", y.rests(3, 0, 0), 18);
            // Beam 0 only lies across the cell that bears too little.
            ShadeBeams z = street("wide 9;post 0 5;post 4 5;beam 0 5 1;beam 2 3 1;");
            due("not what lies across it", z.fallen(), 2);
            // Beams 1 and 2 are too much for 3; beam 0 shares a cell with beam 1, but not that one.
            ShadeBeams v = street(SHADY + "beam 0 2 1;beam 1 3 8;beam 3 3 8;");
            due("not the least of all", v.fallen(), 2);
        });
        sentence("in each HOUR, behind MOVES", () -> {
            String lit = "wide 10;post 0 9;post 1 9;sun 0 1 10;dusk 6;beam 4 2 1;";
            due("moved in time", moves(street(lit), "6 0 0;").falls(0), -1);
            due("moved too late", moves(street(lit), "7 0 0;").falls(0), 6);
            due("moved off", moves(street(SHADY + "post 9 1;beam 1 2 1;cloud 4 4;"), "4 0 7;").falls(0), 4);
            due("in hour 0", moves(street("wide 10;post 0 9;post 1 9;beam 4 2 1;"), "0 0 0;").falls(0), -1);
            due("in hour 23", moves(street("wide 10;post 0 9;post 1 9;beam 0 2 1;"), "23 0 4;").falls(0), 23);
        });
        sentence("MOVES: as HOUR T begins BEAM B is laid with its left end on CELL X", () -> {
            ShadeBeams x = moves(street(SHADY + "beam 1 2 1;beam 1 2 1;"), "5 0 8;5 0 3;9 1 0;5 0 4;");
            due("ahead of it", x.lies(0, 4), 1);
            due("the last of one hour", x.lies(0, 5), 4);
            due("from then on", x.lies(0, 23), 4);
            due("no other beam", x.lies(1, 8), 1);
            due("its own", x.lies(1, 9), 0);
            due("told where it was", x.beam(0, 0), 1);
        });
        sentence("It lies no more on that DAY (MOVES of it do nothing)", () -> {
            ShadeBeams x = moves(street("wide 10;post 0 9;post 1 9;sun 0 1 10;dusk 6;beam 4 2 1;"), "7 0 0;23 0 0;");
            due("falls", x.falls(0), 6);
            due("lies", x.lies(0, 5), 4);
            due("no more", x.lies(0, 6), -1);
            due("no more", x.lies(0, 7), -1);
            due("no more", x.lies(0, 23), -1);
            due("puts nothing there", x.rests(0, 7, 0), 0);
            due("but it puts as much as ever", x.puts(0, 0, 0), 1);
        });
        sentence("On each DAY all begin as told", () -> {
            ShadeBeams x = moves(street("wide 10;post 0 9;moon 2 1 10;beam 4 2 1;"), "9 0 5;");
            due("day 0", x.falls(0), 0);
            x.day(1);
            due("day 1", x.falls(0), -1);
            due("as told", x.lies(0, 8), 4);
            due("then moved", x.lies(0, 9), 5);
            x.day(2);
            due("day 2", x.falls(0), 0);
            x.day(399);
            due("day 399", x.lies(0, 0), 4);
        });
        sentence("The i-th BEAM that FALLS on the DAY, in order; NONE: none such", () -> {
            ShadeBeams x = street("wide 10;post 0 9;sun 0 1 10;sun 9 1 3;beam 5 3 1;beam 1 2 9;load 1 0 50;beam 0 2 1;");
            due("first", x.order(0), 1);
            due("second", x.order(1), 0);
            int[] none = {2, 3, 7, 8, -1, Integer.MIN_VALUE, Integer.MAX_VALUE};
            for (int i : none) {
                due("order " + i, x.order(i), -1);
            }
            ShadeBeams y = street("beam 0 2 1;beam 0 2 1;beam 0 2 1;beam 0 2 1;beam 0 2 1;beam 0 2 1;beam 0 2 1;beam 0 2 1;");
            due("the last of all", y.order(7), 7);
            due("all", y.fallen(), 255);
            due("no beams", new ShadeBeams().order(0), -1);
        });
        sentence("The HOUR of the DAY in which a BEAM FALLS (NONE: it does not)", () -> {
            ShadeBeams x = street("wide 10;post 0 9;post 1 9;sun 0 1 10;dusk 23;beam 0 2 1;beam 1 2 1;beam 8 2 9;load 2 1 99;");
            due("never", x.falls(0), -1);
            due("23", x.falls(1), 23);
            due("0", x.falls(2), 0);
            due("behind how many hours it lies: all", x.lasts(0), 24);
            due("23 of them", x.lasts(1), 23);
            due("none", x.lasts(2), 0);
        });
    }

    /** Eight beams put 125 each on the post on 0: 73, 2 and half of 100; the last one less or more. */
    private static int heavyOnPosts(int lastLoad) {
        StringBuilder s = new StringBuilder("wide 9;post 0 5;post 2 5;");
        for (int b = 0; b < 8; b++) {
            s.append("beam 0 3 2;");
        }
        for (int b = 0; b < 8; b++) {
            s.append("load ").append(b).append(" 0 ").append(b < 7 ? 73 : lastLoad).append(";load ").append(b).append(" 1 98;");
        }
        ShadeBeams x = street(s.toString());
        due("what seven and the last put", 7 * x.puts(0, 0, 0) + x.puts(7, 0, 0), 927 + lastLoad);
        return x.falls(0);
    }

    public static void main(String[] args) {
        shadows();
        clouds();
        weights();
        leastParts();
        falls();
        System.out.println("DayBoundaryTest: " + sentences + " sentences, " + asked + " answers, " + wrong + " not as due");
        if (wrong != 0) {
            System.exit(1);
        }
    }
}
