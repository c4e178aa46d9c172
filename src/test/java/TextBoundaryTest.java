/**
 * Texts at their edges: for each sentence of the document that names a boundary case of the tape, the texts and
 * their faults a test of its own, with the sentence's words.
 */
public final class TextBoundaryTest {
    private static int wrong = 0;
    private static int asked = 0;
    private static int sentences = 0;
    private static String words = "";

    private static final int FINE = -1;
    private static final int NOT_HERE = -9;
    private static final int NONE_SUCH = -8;
    private static final int TOO_MANY = -7;
    private static final int WIDE_LATE = -6;

    interface Case {
        void run();
    }

    interface Reader {
        int read(ShadeBeams x, int n);
    }

    private static void sentence(String told, Case c) {
        words = told;
        sentences++;
        c.run();
    }

    private static void due(String call, long got, long want) {
        asked++;
        if (got != want) {
            wrong++;
            System.out.println("\"" + words + "\": " + call + " answered " + got + ", due is " + want);
        }
    }

    /** The call is refused by an IllegalArgumentException, counted, and the tape stays. */
    private static void refused(ShadeBeams x, String call, Case c) {
        int tape = x.count(1);
        int place = x.fault();
        int before = x.status(2);
        String thrown = "nothing";
        try {
            c.run();
        } catch (RuntimeException e) {
            thrown = e.getClass().getSimpleName();
        }
        asked++;
        if (!thrown.equals("IllegalArgumentException")) {
            wrong++;
            System.out.println("\"" + words + "\": " + call + " threw " + thrown + ", due is IllegalArgumentException");
        }
        due(call + ": counted", x.status(2), before + 1);
        due(call + ": the tape", x.count(1), tape);
        due(call + ": the fault", x.fault(), place);
    }

    private static void feed(ShadeBeams x, String text) {
        for (int i = 0; i < text.length(); i += 20) {
            int[] n = new int[5];
            for (int k = 0; k < 20; k++) {
                int c = i + k < text.length() ? text.charAt(i + k) : '#';
                n[k / 4] = n[k / 4] << 8 | c & 255;
            }
            x.feed(n[0], n[1], n[2], n[3], n[4]);
        }
    }

    private static ShadeBeams street(String text) {
        ShadeBeams x = new ShadeBeams();
        feed(x, text);
        due("street '" + text + "' is read", x.street(text.length()) < 0 ? 0 : 1, 1);
        return x;
    }

    private static void read(ShadeBeams x, Reader r, String text, int answer, int place) {
        feed(x, text);
        due("'" + text + "'", r.read(x, text.length()), answer);
        due("the fault of '" + text + "'", x.fault(), place);
        due("the tape behind '" + text + "'", x.count(1), 0);
    }

    /** A street's text: its fault at a place. */
    private static void bad(String text, int fault, int place) {
        read(new ShadeBeams(), ShadeBeams::street, text, fault, place);
    }

    private static ShadeBeams good(String text, int beams) {
        ShadeBeams x = new ShadeBeams();
        read(x, ShadeBeams::street, text, beams, FINE);
        return x;
    }

    private static ShadeBeams twoBeams() {
        return street("wide 10;beam 0 4 1;beam 2 5 3;");
    }

    private static void law(String text, int answer, int place) {
        read(new ShadeBeams(), ShadeBeams::law, text, answer, place);
    }

    private static void lawSays(String text, int shades, int tall, int value) {
        ShadeBeams x = new ShadeBeams();
        read(x, ShadeBeams::law, text, 1, FINE);
        due("'" + text + "' says", x.bearing(shades, tall, 7, 1), value);
    }

    private static void moves(String text, int answer, int place) {
        ShadeBeams x = twoBeams();
        read(x, ShadeBeams::moves, text, answer, place);
        due("moves behind '" + text + "'", x.told(6), Math.max(0, answer));
    }

    private static void book(String text, int answer, int place) {
        ShadeBeams x = twoBeams();
        read(x, ShadeBeams::book, text, answer, place);
        due("lines behind '" + text + "'", x.told(7), Math.max(0, answer));
    }

    private static String times(String s, int n) {
        return s.repeat(n);
    }

    // ---------------------------------------------------------------- the tape

    private static void tape() {
        sentence("Twenty bytes come on the TAPE: how many there are", () -> {
            ShadeBeams x = new ShadeBeams();
            for (int i = 1; i <= 30; i++) {
                due("feed " + i, x.feed(0, i, -1, Integer.MIN_VALUE, Integer.MAX_VALUE), 20 * i);
                due("bytes", x.count(1), 20 * i);
            }
        });
        sentence("of each number the highest first", () -> {
            ShadeBeams x = new ShadeBeams();
            // "dusk", " 5;p", "ost ", "3 7;", and a byte above 127 behind the text.
            x.feed(0x6475736b, 0x20353b70, 0x6f737420, 0x3320373b, 0xff000000);
            due("street 16", x.street(16), 0);
            due("post", x.post(0, 1), 7);
            x.feed(0xff207374, 0, 0, 0, 0);
            due("a byte of 255", x.street(4), NOT_HERE);
            due("its place", x.fault(), 0);
        });
        sentence("NONE, doing nothing, if there would be more than 600", () -> {
            ShadeBeams x = new ShadeBeams();
            feed(x, "beam 0 2 1;" + times(" ", 589));
            due("bytes", x.count(1), 600);
            due("feed", x.feed(0x23232323, 0x23232323, 0x23232323, 0x23232323, 0x23232323), -1);
            due("bytes", x.count(1), 600);
            due("the text is as fed", x.street(600), 1);
            due("no refusal", x.status(0) + x.status(1) + x.status(2), 0);
            due("behind it there is room", x.feed(0, 0, 0, 0, 0), 20);
        });
    }

    private static void lengths() {
        sentence("n is not 0 to the TAPE's bytes (it stays)", () -> {
            ShadeBeams x = new ShadeBeams();
            refused(x, "street 1 of no bytes", () -> x.street(1));
            refused(x, "street -1", () -> x.street(-1));
            due("street 0 of no bytes", x.street(0), 0);
            feed(x, "beam 0 2 1;beam 0 2 1; ");
            refused(x, "street 41 of 40", () -> x.street(41));
            refused(x, "street of the least", () -> x.street(Integer.MIN_VALUE));
            refused(x, "street of the most", () -> x.street(Integer.MAX_VALUE));
            due("the text is as fed", x.street(22), 2);
        });
        sentence("The first n bytes of the TAPE (empty then) are the STREET", () -> {
            ShadeBeams x = new ShadeBeams();
            feed(x, "beam 0 2 1;beam 0 2 1;");
            due("the first 11", x.street(11), 1);
            due("empty then", x.count(1), 0);
            feed(x, "beam 0 2 1;");
            due("all 20", x.street(20), NOT_HERE);
            due("the fault", x.fault(), 11);
            due("empty then", x.count(1), 0);
            feed(x, "beam 0 2 1;");
            due("none of them", x.street(0), 0);
            due("empty then", x.count(1), 0);
        });
        sentence("A STREET is a text of up to 600 bytes", () -> {
            good("beam 0 2 1;" + times(" ", 578) + "beam 0 2 1;", 2);
            bad("beam 0 2 1;" + times(" ", 579) + "beam 0 2 1", NOT_HERE, 600);
        });
        edgeOf("the LAW (n to 150)", ShadeBeams::law, 150, "7", 1, 1);
        edgeOf("MOVES (n to 150)", ShadeBeams::moves, 150, "1 1 1;", 1, 0);
        edgeOf("the BOOK (n to 100)", ShadeBeams::book, 100, "1 1;", 1, 0);
    }

    /** A text as long as it may be, one longer, and one longer than the tape. */
    private static void edgeOf(String told, Reader r, int most, String text, int answer, int shortest) {
        sentence(told, () -> {
            ShadeBeams x = twoBeams();
            feed(x, times(" ", most - text.length()) + text + times("#", 40));
            refused(x, "one byte more", () -> r.read(x, most + 1));
            refused(x, "all there are", () -> r.read(x, x.count(1)));
            refused(x, "-1", () -> r.read(x, -1));
            due("the longest", r.read(x, most), answer);
            due("the tape is empty", x.count(1), 0);
            refused(x, "beyond the tape", () -> r.read(x, 1));
            feed(x, text);
            refused(x, "beyond the tape", () -> r.read(x, 21));
            due("up to its end", r.read(x, text.length()), answer);
            due("nothing", r.read(x, 0), shortest == 0 ? 0 : NOT_HERE);
        });
    }

    private static void oneStreetAfterAnother() {
        ShadeBeams x = new ShadeBeams();
        String[] between = {"", "wide 9;post 0", "wide 5;post 0 1;"};
        for (String other : between) {
            feed(x, FULL.replaceFirst("beam 0 2 1;beam 0 2 1;", "beam 0 2 1;load 0 1 99;"));
            due("a full street", x.street(FULL.length() + 1), 7);
            due("its load", x.beam(0, 3), 101);
            feed(x, other);
            x.street(other.length());
            read(x, ShadeBeams::street, "beam 3 2 1;post 4 9;moon 2 0 10;cloud 5 5;lamp 8 0;sun 3 0 1;dusk 20;", 1, FINE);
            int[] told = {20, 1, 1, 1, 1, 1, 0, 0, 0};
            for (int w = 0; w < told.length; w++) {
                due("told " + w, x.told(w), told[w]);
            }
            due("no load", x.beam(0, 3), 2);
            due("a moon in hour 0", x.light(0, 0), 2);
            due("a sun from hour 3 to dusk", x.light(3, 0) + x.light(19, 0) + 4 * x.light(20, 0), 10);
            due("one cloud", x.light(4, 0) + 4 * x.light(5, 0) + x.light(6, 0), 2);
            due("a shade to 13", x.bears(13, 0), 20);
            due("no lamp on 0", onFirstCell(x), 0);
            read(x, ShadeBeams::street, "beam 3 2 1;", 1, FINE);
            read(x, ShadeBeams::street, "", 0, FINE);
            for (int w = 0; w < told.length; w++) {
                due("told " + w + " of none", x.told(w), w == 0 ? 20 : 0);
            }
            due("no light", x.light(0, 0) + x.light(12, 0), 0);
            due("nothing bears", x.summed(0, 0) + x.summed(12, 0), 0);
        }
    }

    /** Shadows to the left reach 0: what it bears there by a law that asks for a lamp. */
    private static int onFirstCell(ShadeBeams x) {
        x.build(0, 99);
        read(x, ShadeBeams::law, "lamp * 9", 1, FINE);
        due("a lamp on 8 reaches no shade to the left", x.bears(3, 12), 0);
        due("the shade is there", x.shade(0, 0, 12) ? 1 : 0, 1);
        return x.bears(0, 12);
    }

    private static ShadeBeams everythingTold() {
        ShadeBeams x = street("wide 12;post 3 4;beam 0 2 1;beam 3 2 1;");
        read(x, ShadeBeams::law, "77", 1, FINE);
        read(x, ShadeBeams::moves, "1 1 1;", 1, FINE);
        read(x, ShadeBeams::book, "1 1;0 24;", 2, FINE);
        x.day(7);
        x.build(0, 9);
        x.lay(0, 5);
        x.image();
        x.image();
        return x;
    }

    private static void dueAsTold(ShadeBeams x) {
        int[] told = {12, 1, 2, 0, 0, 0, 1, 2, 7};
        for (int w = 0; w < told.length; w++) {
            due("told " + w, x.told(w), told[w]);
        }
        due("height", x.post(0, 1), 9);
        due("left end", x.beam(0, 0), 5);
        due("law", x.bearing(1, 0, 0, 0), 77);
        due("images", x.count(0), 2);
        due("changes", x.count(2), 2);
    }

    private static void answers() {
        sentence("or the FAULT less 10 (all but the TAPE stays)", () -> {
            ShadeBeams x = everythingTold();
            read(x, ShadeBeams::street, "wide 9;post 1 1;more", NOT_HERE, 16);
            dueAsTold(x);
            read(x, ShadeBeams::law, "5 + tall + 1000", NONE_SUCH, 11);
            dueAsTold(x);
            read(x, ShadeBeams::moves, "2 0 2;3 0 3;3 0 11;", NONE_SUCH, 16);
            dueAsTold(x);
            read(x, ShadeBeams::book, "0 1;1 1;0 2;1 25;", NONE_SUCH, 14);
            dueAsTold(x);
            read(x, ShadeBeams::street, "wide 9;wide 9;", WIDE_LATE, 7);
            dueAsTold(x);
        });
        sentence("are the STREET (DAY 0; no LAW, MOVES, BOOK, IMAGES)", () -> {
            ShadeBeams x = everythingTold();
            read(x, ShadeBeams::street, "wide 12;post 3 4;beam 0 2 1;beam 3 2 1;", 2, FINE);
            int[] told = {12, 1, 2, 0, 0, 0, 0, 0, 0};
            for (int w = 0; w < told.length; w++) {
                due("told " + w, x.told(w), told[w]);
            }
            due("law", x.bearing(3, 0, 0, 0), 60);
            due("images", x.count(0), 0);
            due("restore", x.restore(), -1);
            due("height", x.post(0, 1), 4);
            due("left end", x.beam(0, 0), 0);
            due("right", x.right(), 0);
            due("lies where it was told", x.falls(1), 0);
        });
        sentence("are the STREET (and nothing of an earlier one)", TextBoundaryTest::oneStreetAfterAnother);
        sentence("how many BEAMS", () -> {
            good("", 0);
            good(times("beam 0 2 1;", 8), 8);
        });
        sentence("The place of the FAULT of the latest text; NONE without", () -> {
            ShadeBeams x = new ShadeBeams();
            due("no text", x.fault(), -1);
            read(x, ShadeBeams::law, "1 + ?", NOT_HERE, 4);
            refused(x, "a call refused is no text", () -> x.law(1));
            x.feed(0, 0, 0, 0, 0);
            due("nor is a feed", x.fault(), 4);
            read(x, ShadeBeams::book, "", 0, FINE);
            read(x, ShadeBeams::moves, " x", NOT_HERE, 1);
            read(x, ShadeBeams::book, "5", NONE_SUCH, 0);
            read(x, ShadeBeams::street, ";", NOT_HERE, 0);
            read(x, ShadeBeams::moves, " ", 0, FINE);
        });
    }

    // ---------------------------------------------------------------- streets

    private static void clauses() {
        sentence("{ CLAUSE \";\" }", () -> {
            good("", 0);
            good("  ", 0);
            good("dusk 5;", 0);
            bad(";", NOT_HERE, 0);
            bad("dusk 5", NOT_HERE, 6);
            bad("dusk 5;;", NOT_HERE, 7);
            bad("dusk 5 post 1 1;", NOT_HERE, 7);
            bad("dusk 5,", NOT_HERE, 6);
            bad("dusk 5 6;", NOT_HERE, 7);
        });
        sentence("at most 60", () -> {
            good(times("dusk 5;", 60), 0);
            good(times("dusk 5;", 60) + "   ", 0);
            bad(times("dusk 5;", 61), TOO_MANY, 420);
            bad(times("dusk 5;", 60) + "  dusk", TOO_MANY, 422);
            good("wide 9;" + times("dusk 5;", 59), 0);
            bad("wide 9;" + times("dusk 5;", 60), TOO_MANY, 420);
        });
        sentence("wide W (4 to 40", () -> {
            bad("wide 3;", NONE_SUCH, 5);
            due("4", good("wide 4;", 0).told(0), 4);
            due("40", good("wide 40;", 0).told(0), 40);
            bad("wide 41;", NONE_SUCH, 5);
            bad("wide 0;", NONE_SUCH, 5);
            bad("wide ;", NOT_HERE, 5);
        });
        sentence("20 without", () -> due("cells", good("dusk 5;", 0).told(0), 20));
        sentence("ahead of all others", () -> {
            bad("dusk 5;wide 9;", WIDE_LATE, 7);
            bad("dusk 5;  wide", WIDE_LATE, 9);
            bad("dusk 5;wide 3;", WIDE_LATE, 7);
        });
        sentence("once", () -> {
            bad("wide 9;wide 9;", WIDE_LATE, 7);
            bad("wide 9;dusk 5;wide 9;", WIDE_LATE, 14);
        });
        sentence("of one the least", () -> {
            bad(times("dusk 5;", 60) + "wide 9;", TOO_MANY, 420);
            bad(times("dusk 5;", 60) + "wall 9;", NOT_HERE, 420);
            bad(times("dusk 5;", 60) + "7", NOT_HERE, 420);
            moves(times("1 1 1;", 16) + "24 1 1;", NONE_SUCH, 96);
            moves(times("1 1 1;", 16) + "x", NOT_HERE, 96);
            book(times("1 1;", 8) + "2 1;", NONE_SUCH, 32);
            book(times("1 1;", 8) + "-", NOT_HERE, 32);
        });
        sentence("wide W (.. 0 to W less 1", () -> {
            due("the last cell", good("wide 4;post 3 1;", 0).post(0, 0), 3);
            bad("wide 4;post 4 1;", NONE_SUCH, 12);
            due("the last of 40", good("wide 40;post 39 1;", 0).post(0, 0), 39);
            bad("wide 40;post 40 1;", NONE_SUCH, 13);
            bad("post 20 1;", NONE_SUCH, 5);
            due("the last of 20", good("post 19 1;", 0).post(0, 0), 19);
        });
    }

    private static final String TEN_POSTS = "post 0 1;post 1 1;post 2 1;post 3 1;post 4 1;post 5 1;post 6 1;post 7 1;post 8 1;post 9 1;";

    private static void posts() {
        sentence("post X H (POSTS, numbered from 0 on, 10 at most", () -> {
            ShadeBeams x = good(TEN_POSTS, 0);
            due("posts", x.told(1), 10);
            due("the first", x.post(0, 0), 0);
            due("the last", x.post(9, 0), 9);
            bad(TEN_POSTS + " post 10 1;", TOO_MANY, 91);
            bad(TEN_POSTS + "post 3 1;", TOO_MANY, 90);
        });
        sentence("no two on one", () -> {
            bad("post 3 1;post 3 1;", NONE_SUCH, 14);
            bad("post 0 1;post 3 1;post  0 0;", NONE_SUCH, 24);
            good("post 3 1;post 4 1;post 2 1;", 0);
        });
        sentence("H high, 1 to 99", () -> {
            bad("post 3 0;", NONE_SUCH, 7);
            due("1", good("post 3 1;", 0).post(0, 1), 1);
            due("99", good("post 3 99;", 0).post(0, 1), 99);
            bad("post 3 100;", NONE_SUCH, 7);
        });
    }

    private static void suns() {
        sentence("sun T D N (12 at most", () -> {
            good(times("sun 0 0 0;", 12), 0);
            bad(times("sun 0 0 0;", 13), TOO_MANY, 120);
        });
        sentence("from HOUR T on, 0 to 23", () -> {
            due("23", good("sun 23 1 5;", 0).light(23, 0), 1);
            due("ahead of it", good("sun 23 1 5;", 0).light(22, 0), 0);
            due("0", good("sun 0 1 5;", 0).light(0, 0), 1);
            bad("sun 24 1 5;", NONE_SUCH, 4);
        });
        sentence("to D, 0 the left, 1 the right", () -> {
            due("0", good("sun 0 0 5;", 0).light(0, 2), 0);
            due("1", good("sun 0 1 5;", 0).light(0, 2), 1);
            bad("sun 0 2 5;", NONE_SUCH, 6);
        });
        sentence("N tenths of the height long, 0 to 99", () -> {
            due("0 is a sun", good("sun 0 1 0;", 0).light(0, 0), 1);
            due("0", good("sun 0 1 0;", 0).light(0, 1), 0);
            due("99", good("sun 0 1 99;", 0).light(0, 1), 99);
            bad("sun 0 1 100;", NONE_SUCH, 8);
        });
        sentence("of one T the last counts", () -> {
            ShadeBeams x = good("sun 5 0 7;sun 9 0 1;sun 5 1 8;", 0);
            due("N", x.light(5, 1), 8);
            due("D", x.light(5, 2), 1);
            due("another T", x.light(9, 1), 1);
        });
        sentence("ahead of the first one there is no sun", () -> {
            ShadeBeams x = good("sun 9 1 5;sun 6 0 7;", 0);
            due("5", x.light(5, 0), 0);
            due("6", x.light(6, 1), 7);
            due("8", x.light(8, 1), 7);
            due("9", x.light(9, 1), 5);
            due("none at all", good("dusk 20;", 0).light(12, 0), 0);
        });
        sentence("dusk T (from HOUR T on there is no sun", () -> {
            ShadeBeams x = good("sun 0 1 5;sun 20 1 6;dusk 18;", 0);
            due("17", x.light(17, 0), 1);
            due("18", x.light(18, 0), 0);
            due("not by a later one either", x.light(20, 0), 0);
        });
        sentence("24 without, 1 to 24", () -> {
            due("without", good("sun 0 1 5;", 0).light(23, 0), 1);
            due("24", good("sun 0 1 5;dusk 24;", 0).light(23, 0), 1);
            due("1", good("sun 0 1 5;dusk 1;", 0).light(0, 0), 1);
            due("1", good("sun 0 1 5;dusk 1;", 0).light(1, 0), 0);
            bad("dusk 0;", NONE_SUCH, 5);
            bad("dusk 25;", NONE_SUCH, 5);
        });
        sentence("dusk T (.. the last counts)", () -> {
            due("later", good("sun 0 1 5;dusk 5;dusk 9;", 0).light(8, 0), 1);
            due("earlier", good("sun 0 1 5;dusk 9;dusk 5;", 0).light(5, 0), 0);
        });
    }

    private static void moonsAndClouds() {
        sentence("moon P R N (MOONS, 3 at most", () -> {
            due("moons", good(times("moon 1 0 1;", 3), 0).told(5), 3);
            bad(times("moon 1 0 1;", 4), TOO_MANY, 33);
        });
        sentence("P 1 to 60", () -> {
            bad("moon 0 0 5;", NONE_SUCH, 5);
            due("1: each day", dayLight("moon 1 0 5;", 399), 5);
            due("60", dayLight("moon 60 0 5;", 360), 5);
            due("60", dayLight("moon 60 0 5;", 359), 0);
            bad("moon 61 0 5;", NONE_SUCH, 5);
        });
        sentence("R less than P", () -> {
            due("59 of 60", dayLight("moon 60 59 5;", 59), 5);
            bad("moon 60 60 5;", NONE_SUCH, 8);
            bad("moon 1 1 5;", NONE_SUCH, 7);
            due("0 of 2", dayLight("moon 2 0 5;", 0), 5);
            due("0 of 2", dayLight("moon 2 0 5;", 1), 0);
        });
        sentence("N tenths long, 1 to 99", () -> {
            bad("moon 1 0 0;", NONE_SUCH, 9);
            due("1", dayLight("moon 1 0 1;", 0), 1);
            due("99", dayLight("moon 1 0 99;", 0), 99);
            bad("moon 1 0 100;", NONE_SUCH, 9);
        });
        sentence("in HOURS without sun shadows go to the right", () -> {
            ShadeBeams x = good("sun 6 0 0;dusk 9;moon 1 0 5;", 0);
            due("ahead of the sun", x.light(5, 0), 2);
            due("to the right", x.light(5, 2), 1);
            due("a sun without length is one", x.light(6, 0), 1);
            due("up to dusk", x.light(8, 0), 1);
            due("from dusk on", x.light(9, 0), 2);
        });
        sentence("of several on one DAY the first", () -> {
            due("both", dayLight("moon 3 0 5;moon 2 0 7;moon 1 0 9;", 6), 5);
            due("the second", dayLight("moon 3 0 5;moon 2 0 7;moon 1 0 9;", 4), 7);
            due("the third", dayLight("moon 3 0 5;moon 2 0 7;moon 1 0 9;", 5), 9);
        });
        sentence("cloud F T (CLOUDS, 6 at most", () -> {
            due("clouds", good(times("cloud 0 0;", 6), 0).told(4), 6);
            bad(times("cloud 0 0;", 7), TOO_MANY, 60);
        });
        sentence("in HOURS F to T, 0 to 23", () -> {
            ShadeBeams x = good("sun 0 1 5;cloud 3 5;cloud 23 23;cloud 0 0;", 0);
            int[] kinds = {0, 1, 1, 0, 0, 0, 1};
            for (int h = 0; h < kinds.length; h++) {
                due("hour " + h, x.light(h, 0), kinds[h]);
            }
            due("22", x.light(22, 0), 1);
            due("23", x.light(23, 0), 0);
            bad("cloud 24 24;", NONE_SUCH, 6);
            bad("cloud 0 24;", NONE_SUCH, 8);
        });
        sentence("F no more than T", () -> {
            bad("cloud 5 4;", NONE_SUCH, 8);
            due("one hour", good("sun 0 1 5;cloud 5 5;", 0).light(5, 0), 0);
        });
        sentence("neither sun nor moon", () -> {
            ShadeBeams x = good("sun 0 1 5;dusk 9;moon 1 0 7;cloud 8 9;lamp 0 9;", 0);
            for (int what = 0; what < 3; what++) {
                due("no sun", x.light(8, what), 0);
                due("no moon", x.light(9, what), 0);
            }
        });
    }

    private static int dayLight(String text, int day) {
        ShadeBeams x = good(text, 0);
        x.day(day);
        return x.light(0, 1);
    }

    private static void lampsAndBeams() {
        sentence("lamp X R (LAMPS, 6 at most", () -> {
            due("lamps", good(times("lamp 0 0;", 6), 0).told(3), 6);
            bad(times("lamp 0 0;", 7), TOO_MANY, 54);
        });
        sentence("on CELL X, R CELLS far, 0 to 9", () -> {
            good("lamp 19 9;lamp 0 0;", 0);
            bad("lamp 20 9;", NONE_SUCH, 5);
            bad("lamp 19 10;", NONE_SUCH, 8);
        });
        sentence("beam X L M (BEAMS likewise, 8", () -> {
            due("beams", good(times("beam 0 2 1;", 8), 8).told(2), 8);
            bad(times("beam 0 2 1;", 9), TOO_MANY, 88);
        });
        sentence("L CELLS long, 2 to 20", () -> {
            bad("beam 0 1 1;", NONE_SUCH, 7);
            due("2", good("beam 0 2 1;", 1).beam(0, 1), 2);
            due("20", good("beam 0 20 1;", 1).beam(0, 1), 20);
            bad("wide 40;beam 0 21 1;", NONE_SUCH, 15);
        });
        sentence("M heavy for each, 1 to 9", () -> {
            bad("beam 0 2 0;", NONE_SUCH, 9);
            due("1", good("beam 0 2 1;", 1).beam(0, 3), 2);
            due("9", good("beam 0 20 9;", 1).beam(0, 3), 180);
            bad("beam 0 2 10;", NONE_SUCH, 9);
        });
        sentence("all of a BEAM is on CELLS (beyond the CELLS: at L)", () -> {
            good("beam 18 2 1;", 1);
            bad("beam 19 2 1;", NONE_SUCH, 8);
            bad("beam 20 2 1;", NONE_SUCH, 5);
            good("wide 40;beam 20 20 1;", 1);
            bad("wide 40;beam 21 20 0;", NONE_SUCH, 16);
            good("wide 4;beam 0 4 1;", 1);
            bad("wide 4;beam 0 5 1;", NONE_SUCH, 14);
        });
        sentence("load B P M (on CELL P of BEAM B, 0 to L less 1", () -> {
            due("both ends", good("beam 0 5 1;load 0 0 3;load 0 4 4;", 1).beam(0, 3), 12);
            bad("beam 0 5 1;load 0 5 3;", NONE_SUCH, 18);
            bad("beam 0 5 1;load 1 0 3;", NONE_SUCH, 16);
            bad("load 0 0 3;", NONE_SUCH, 5);
            due("each its own", good("beam 0 5 1;beam 0 6 1;load 1 5 3;", 2).beam(1, 3), 9);
        });
        sentence("M more, 0 to 99", () -> {
            due("0", good("beam 0 5 1;load 0 0 0;", 1).beam(0, 3), 5);
            due("99", good("beam 0 5 1;load 0 0 99;", 1).beam(0, 3), 104);
            bad("beam 0 5 1;load 0 0 100;", NONE_SUCH, 20);
        });
        sentence("at one P the last counts", () -> {
            due("7", good("beam 0 5 1;load 0 2 99;load 0 3 1;load 0 2 7;", 1).beam(0, 3), 13);
            due("0", good("beam 0 5 1;load 0 2 99;load 0 2 0;", 1).beam(0, 3), 5);
        });
    }

    // ---------------------------------------------------------------- laws, moves, books

    private static void laws() {
        sentence("E, at the end nothing more", () -> {
            law("1", 1, FINE);
            law("1 2", NOT_HERE, 2);
            law("1;", NOT_HERE, 1);
            law("1)", NOT_HERE, 1);
            law("tall hour", NOT_HERE, 5);
            law("1  ", 1, FINE);
        });
        sentence("without: shades * 20", () -> due("bearing", new ShadeBeams().bearing(7, 9, 9, 0), 140));
        sentence("E: T { + or - T }", () -> {
            lawSays("9-3-2", 1, 0, 4);
            lawSays("1-2+3", 1, 0, 2);
            lawSays("2+3*4", 1, 0, 14);
            law("1+", NOT_HERE, 2);
            law("+1", NOT_HERE, 0);
            law("1--1", NOT_HERE, 2);
        });
        sentence("T: U { * or / U }", () -> {
            lawSays("100/7/2*3", 1, 0, 21);
            lawSays("2*3-10/5", 1, 0, 4);
            law("2*", NOT_HERE, 2);
            law("*2", NOT_HERE, 0);
        });
        sentence("U: N (0 to 999)", () -> {
            lawSays("0", 1, 0, 0);
            lawSays("999", 1, 0, 999);
            law("1000", NONE_SUCH, 0);
            law("1+1000", NONE_SUCH, 2);
        });
        sentence("\"shades\", \"tall\", \"hour\", \"lamp\"", () -> {
            lawSays("shades", 4, 90, 4);
            lawSays("tall", 4, 90, 90);
            lawSays("hour", 4, 90, 7);
            lawSays("lamp", 4, 90, 1);
            lawSays("1+2*shades", 4, 90, 9);
            lawSays("1+2*tall", 4, 90, 181);
            lawSays("1+2*hour", 4, 90, 15);
            lawSays("1+2*lamp", 4, 90, 3);
            lawSays("1+2*(3-lamp*(2-tall/(hour-shades)))", 4, 90, 63);
            law("shade", NOT_HERE, 0);
            law("shadess", NOT_HERE, 0);
            law("1+wide", NOT_HERE, 2);
        });
        sentence("\"least\" \"[\" E \",\" E \"]\", \"most\" \"[\" E \",\" E \"]\"", () -> {
            lawSays("least[7,9]", 1, 0, 7);
            lawSays("least[9,7]", 1, 0, 7);
            lawSays("most[7,9]", 1, 0, 9);
            lawSays("most[9,7]", 1, 0, 9);
            lawSays("most[0-5,2]-least[0-9,0-8]", 1, 0, 11);
            law("least", NOT_HERE, 5);
            law("least(1,2)", NOT_HERE, 5);
            law("least[1]", NOT_HERE, 7);
            law("least[1,2)", NOT_HERE, 9);
            law("most[1,2", NOT_HERE, 8);
            law("most[,2]", NOT_HERE, 5);
        });
        sentence("or \"(\" E \")\"", () -> {
            lawSays("9-(3-2)", 1, 0, 8);
            law("()", NOT_HERE, 1);
            law("(1", NOT_HERE, 2);
            law("(1]", NOT_HERE, 2);
        });
        sentence("whole numbers of 32 bits that wrap", () -> {
            // 512 * 512 * 512 * 16 is 2 to the power of 31: the least number; less 1 it is the greatest.
            lawSays("512*512*512*16", 1, 0, 0);
            lawSays("(512*512*512*16-1)/512/512/512", 1, 0, 15);
            lawSays("512*512*512*32+5", 1, 0, 5);
            lawSays("0-512*512*512*16", 1, 0, 0);
            lawSays("(512*512*512*16-1-999)/(512*512*8)", 1, 0, 999);
            // The least number by -1 is itself again.
            lawSays("512*512*512*16/(0-1)/(0-512*512*16)", 1, 0, 512);
        });
        sentence("/ cuts, by 0 it is 0", () -> {
            lawSays("7/2", 1, 0, 3);
            lawSays("(0-7)/2+10", 1, 0, 7);
            lawSays("7/(0-2)+10", 1, 0, 7);
            lawSays("7/0+5", 1, 0, 5);
            lawSays("5+tall/(hour-7)", 1, 50, 5);
            lawSays("0/0", 1, 0, 0);
        });
        sentence("a 7th of ( least most that is open at one time", () -> {
            lawSays(times("(", 6) + "1" + times(")", 6), 1, 0, 1);
            law(times("(", 7) + "1" + times(")", 7), TOO_MANY, 6);
            lawSays(times("least[1,", 6) + "1" + times("]", 6), 1, 0, 1);
            law(times("least[1,", 7) + "1" + times("]", 7), TOO_MANY, 48);
            law(times("most[", 6) + "1", NOT_HERE, 31);
            law(times("most[", 6) + " most", TOO_MANY, 31);
            law(times("((", 3) + "least", TOO_MANY, 6);
            law(times("((", 3) + "leas", NOT_HERE, 6);
            law(times("((", 3) + "[", NOT_HERE, 6);
            lawSays(times("(1)+", 20) + "1", 1, 0, 21);
            lawSays("((((((1)))+(((2))))))+((((((3))))))", 1, 0, 6);
            law("((((((1)+((2", TOO_MANY, 10);
        });
    }

    private static void movesAndBooks() {
        sentence("MOVES: { T B X \";\" }, 16 at most", () -> {
            moves("", 0, FINE);
            moves(times("1 1 1;", 16), 16, FINE);
            moves(times("1 1 1;", 16) + "  ", 16, FINE);
            moves(times("1 1 1;", 17), TOO_MANY, 96);
            moves(times("1 1 1;", 16) + "  3", TOO_MANY, 98);
            moves("1 1 1", NOT_HERE, 5);
            moves("1 1;", NOT_HERE, 3);
            moves("1 1 1 1;", NOT_HERE, 6);
            moves("1 1 1;;", NOT_HERE, 6);
        });
        sentence("as HOUR T begins (MOVES)", () -> {
            moves("0 1 1;", 1, FINE);
            moves("23 1 1;", 1, FINE);
            moves("24 1 1;", NONE_SUCH, 0);
        });
        sentence("BEAM B (MOVES)", () -> {
            moves("0 0 1;", 1, FINE);
            moves("0 2 1;", NONE_SUCH, 2);
            read(new ShadeBeams(), ShadeBeams::moves, "0 0 0;", NONE_SUCH, 2);
        });
        sentence("of a BEAM beyond the CELLS: .. the X of MOVES", () -> {
            moves("0 0 6;", 1, FINE);
            moves("0 0 7;", NONE_SUCH, 4);
            moves("0 1 5;", 1, FINE);
            moves("0 1 6;", NONE_SUCH, 4);
            moves("0 1 10;", NONE_SUCH, 4);
        });
        sentence("A BOOK: { B T \";\" }, 8 lines at most", () -> {
            book("", 0, FINE);
            book(times("1 1;", 8), 8, FINE);
            book(times("1 1;", 8) + " ", 8, FINE);
            book(times("1 1;", 9), TOO_MANY, 32);
            book(times("1 1;", 8) + " 1", TOO_MANY, 33);
            book("1 1", NOT_HERE, 3);
            book("1;", NOT_HERE, 1);
            book("1 1 1;", NOT_HERE, 4);
        });
        sentence("BEAM B falls in HOUR T (24: it does not)", () -> {
            book("0 0;1 23;", 2, FINE);
            book("0 24;", 1, FINE);
            book("0 25;", NONE_SUCH, 2);
            book("2 0;", NONE_SUCH, 0);
            read(new ShadeBeams(), ShadeBeams::book, "0 0;", NONE_SUCH, 0);
        });
    }

    // ---------------------------------------------------------------- signs and faults

    private static void signs() {
        sentence("Numbers: digits, as many as stand there", () -> {
            due("zeros ahead", good("wide 000000000000000000000000000004;", 0).told(0), 4);
            bad("wide 4294967300;", NONE_SUCH, 5);
            bad("wide 18446744073709551620;", NONE_SUCH, 5);
            bad("post 3 1000000000000000000000000000000000001;", NONE_SUCH, 7);
            bad("wide 4x;", NOT_HERE, 6);
            bad("wide 4.0;", NOT_HERE, 6);
            bad("wide -4;", NOT_HERE, 5);
            law("4294967297", NONE_SUCH, 0);
            lawSays("0000000012", 1, 0, 12);
        });
        sentence("WORDS: small letters, as many as stand there", () -> {
            due("a number at once behind", good("wide4;post3 1;", 0).post(0, 0), 3);
            bad("posts 3 1;", NOT_HERE, 0);
            bad("pos 3 1;", NOT_HERE, 0);
            bad("Post 3 1;", NOT_HERE, 0);
            bad("posT 3 1;", NOT_HERE, 0);
            bad("po st 3 1;", NOT_HERE, 0);
            String[] clauseWords = {"wide", "post", "sun", "dusk", "moon", "cloud", "lamp", "beam", "load"};
            for (String w : clauseWords) {
                bad("x" + w.substring(1) + " 5 5 5;", NOT_HERE, 0);
                bad(w.substring(0, w.length() - 1) + "x 5 5 5;", NOT_HERE, 0);
                bad(w + "s 5 5 5;", NOT_HERE, 0);
                bad(w.substring(1) + " 5 5 5;", NOT_HERE, 0);
            }
            String[] lawWords = {"shades", "tall", "hour", "lamp", "least", "most"};
            for (String w : lawWords) {
                law("x" + w.substring(1) + "[1,2]", NOT_HERE, 0);
                law(w.substring(0, w.length() - 1) + "x[1,2]", NOT_HERE, 0);
                law(w + "s[1,2]", NOT_HERE, 0);
                law(w.substring(1) + "[1,2]", NOT_HERE, 0);
            }
            law("tallhour", NOT_HERE, 0);
            lawSays("shades*tall", 3, 5, 15);
        });
        sentence("blanks (32) may stand ahead of all these, and at the end", () -> {
            due("everywhere", good("  wide  9 ;  post  3  7  ;  ", 0).post(0, 1), 7);
            lawSays("  least  [  7  ,  (  9  -  1  )  ]  *  2  ", 1, 0, 14);
            moves("  1  1  1  ;  ", 1, FINE);
            book("  1  1  ;  ", 1, FINE);
            bad("post\t3 1;", NOT_HERE, 4);
            bad("dusk 5;\n", NOT_HERE, 7);
            bad("dusk 5;" + (char) 0, NOT_HERE, 7);
            bad("dusk 5;" + (char) 160, NOT_HERE, 7);
            bad("post 1 0 1;", NONE_SUCH, 7);
        });
        sentence("the first from the left, at its first byte", () -> {
            bad("post 20 0;", NONE_SUCH, 5);
            bad("  post 3 100;wide 3;", NONE_SUCH, 9);
            bad("dusk 99;;", NONE_SUCH, 5);
            bad("dusk ;post 3 0;", NOT_HERE, 5);
            law("(1000", NONE_SUCH, 1);
            moves("24 9 99;", NONE_SUCH, 0);
            book("0 1;9 99", NONE_SUCH, 4);
        });
        sentence("at the length, if the text ends too early", () -> {
            bad("dusk", NOT_HERE, 4);
            bad("dusk  ", NOT_HERE, 6);
            bad("dusk 5  ", NOT_HERE, 8);
            bad("post 3", NOT_HERE, 6);
            law("", NOT_HERE, 0);
            law("   ", NOT_HERE, 3);
            law("(1 ", NOT_HERE, 3);
            law("least [ 1 , ", NOT_HERE, 12);
            moves("1 1", NOT_HERE, 3);
            book("1 ", NOT_HERE, 2);
        });
    }

    /** A street with all of everything that its text may tell. */
    private static final String FULL = "wide 40;" + TEN_POSTS + times("beam 0 2 1;", 8) + times("lamp 0 0;", 6)
            + times("cloud 0 0;", 6) + times("moon 1 0 1;", 3) + times("sun 0 0 0;", 12) + times("dusk 1;", 14);

    private static void told() {
        sentence("0 CELLS, 1 POSTS, 2 BEAMS, 3 LAMPS, 4 CLOUDS, 5 MOONS, 6 MOVES, 7 lines of the BOOK, 8 the DAY", () -> {
            ShadeBeams x = good(FULL, 8);
            read(x, ShadeBeams::moves, times("1 1 1;", 16), 16, FINE);
            read(x, ShadeBeams::book, times("1 1;", 8), 8, FINE);
            x.day(399);
            int[] told = {40, 10, 8, 6, 6, 3, 16, 8, 399};
            for (int w = 0; w < told.length; w++) {
                due("told " + w, x.told(w), told[w]);
            }
        });
        sentence("another what (told)", () -> {
            ShadeBeams x = good(FULL, 8);
            refused(x, "told 9", () -> x.told(9));
            refused(x, "told -1", () -> x.told(-1));
            refused(x, "told of the least", () -> x.told(Integer.MIN_VALUE));
            refused(x, "told of the most", () -> x.told(Integer.MAX_VALUE));
        });
    }

    public static void main(String[] args) {
        tape();
        lengths();
        answers();
        clauses();
        posts();
        suns();
        moonsAndClouds();
        lampsAndBeams();
        laws();
        movesAndBooks();
        signs();
        told();
        System.out.println("TextBoundaryTest: " + sentences + " sentences, " + asked + " answers, " + wrong + " not as due");
        if (wrong != 0) {
            System.exit(1);
        }
    }
}
