/** Promise by promise: answers worked out by hand from the document's words, edges and refusals. */
public final class PromiseTest {
    private static int wrong = 0;
    private static int asked = 0;
    private static int promise = 0;

    interface Call {
        void make();
    }

    private static void due(String call, long got, long want) {
        asked++;
        if (got != want) {
            wrong++;
            System.out.println("promise " + promise + ": " + call + " answered " + got + ", due is " + want);
        }
    }

    private static void index(String call, Call c) {
        due(call + " throws", thrown(c), 1);
    }

    private static void element(String call, Call c) {
        due(call + " throws", thrown(c), 2);
    }

    private static void argument(String call, Call c) {
        due(call + " throws", thrown(c), 3);
    }

    private static int thrown(Call c) {
        try {
            c.make();
        } catch (IndexOutOfBoundsException e) {
            return 1;
        } catch (java.util.NoSuchElementException e) {
            return 2;
        } catch (IllegalArgumentException e) {
            return 3;
        }
        return 0;
    }

    private static void feed(ShadeBeams x, String text) {
        for (int i = 0; i < text.length(); i += 20) {
            int[] n = new int[5];
            for (int k = 0; k < 20; k++) {
                int c = i + k < text.length() ? text.charAt(i + k) : 0;
                n[k / 4] = n[k / 4] << 8 | c;
            }
            x.feed(n[0], n[1], n[2], n[3], n[4]);
        }
    }

    private static ShadeBeams street(String text) {
        ShadeBeams x = new ShadeBeams();
        feed(x, text);
        due("street '" + text + "' is read", x.street(text.length()) >= 0 ? 1 : 0, 1);
        return x;
    }

    private static int law(ShadeBeams x, String text) {
        feed(x, text);
        return x.law(text.length());
    }

    private static int moves(ShadeBeams x, String text) {
        feed(x, text);
        return x.moves(text.length());
    }

    private static int book(ShadeBeams x, String text) {
        feed(x, text);
        return x.book(text.length());
    }

    /** One post, 3 high, at the left; the sun throws 3 cells to the right from 6 on, 6 to 17 in all. */
    private static final String DAYTIME = "wide 10;post 0 3;sun 6 1 10;dusk 18;";

    private static void newObject() {
        promise = 1;
        ShadeBeams x = new ShadeBeams();
        int[] told = {20, 0, 0, 0, 0, 0, 0, 0, 0};
        for (int w = 0; w < told.length; w++) {
            due("told " + w, x.told(w), told[w]);
        }
        due("fault", x.fault(), -1);
        due("bears", x.bears(19, 23), 0);
        due("fallen", x.fallen(), 0);
        due("heaviest", x.heaviest(), -1);
        due("count", x.count(0) + x.count(1) + x.count(2), 0);
        due("status", x.status(0) + x.status(1) + x.status(2), 0);
        due("bearing by the law without a text", x.bearing(3, 50, 1, 1), 60);
        due("bare", x.bare(0, 23), 20);
        due("row", x.row(5, 0), 0);
        due("row 1", x.row(5, 1), -1);
        index("bears 20", () -> x.bears(20, 0));
    }

    private static void tape() {
        promise = 2;
        ShadeBeams x = new ShadeBeams();
        for (int i = 1; i <= 30; i++) {
            due("feed", x.feed(0x64757368, 0, -1, Integer.MIN_VALUE, Integer.MAX_VALUE), 20 * i);
        }
        due("feed beyond 600", x.feed(1, 2, 3, 4, 5), -1);
        due("bytes", x.count(1), 600);
        due("street 600", x.street(600), -9);
        due("fault", x.fault(), 0);
        due("feed", x.feed(0x6475736b, 0x20353b20, 0x20202020, 0x2020646f, 0x6e652020), 20);
        due("the highest byte first", x.street(14), 0);
    }

    private static void streets() {
        promise = 3;
        ShadeBeams x = street("beam 0 2 1;beam 3 2 1;post 5 5;");
        due("beams", x.told(2), 2);
        law(x, "1");
        moves(x, "1 1 1;");
        book(x, "1 1;");
        x.day(7);
        x.image();
        x.build(0, 9);
        feed(x, "wide 9;post 9 1;more");
        argument("street 21", () -> x.street(21));
        argument("street -1", () -> x.street(-1));
        due("the tape stays", x.count(1), 20);
        due("fault stays", x.fault(), -1);
        due("a number that is none such", x.street(16), -8);
        due("fault", x.fault(), 12);
        due("the tape is empty", x.count(1), 0);
        due("all else stays", x.told(0), 20);
        due("beams stay", x.told(2), 2);
        due("moves stay", x.told(6), 1);
        due("book stays", x.told(7), 1);
        due("the day stays", x.told(8), 7);
        due("images stay", x.count(0), 1);
        due("changes stay", x.count(2), 1);
        due("the law stays", x.bearing(5, 5, 5, 0), 1);
        due("heights stay", x.post(0, 1), 9);
        due("an empty street", x.street(0), 0);
        due("fault", x.fault(), -1);
        due("no posts", x.told(1), 0);
        due("no moves", x.told(6), 0);
        due("no book", x.told(7), 0);
        due("day 0", x.told(8), 0);
        due("no images", x.count(0), 0);
        due("restore", x.restore(), -1);
        due("no changes", x.count(2), 0);
        due("undo", x.undo(), -1);
        due("no law", x.bearing(5, 5, 5, 0), 100);
        due("status", x.status(2), 2);
    }

    private static void laws() {
        promise = 4;
        ShadeBeams x = new ShadeBeams();
        due("law", law(x, "7 - 2 - 1"), 1);
        due("from the left", x.bearing(1, 0, 0, 0), 4);
        law(x, "100 / 7 / 2 * 3");
        due("cuts", x.bearing(1, 0, 0, 0), 21);
        law(x, "(0 - 7) / 2 + 10");
        due("cuts to nothing", x.bearing(1, 0, 0, 0), 7);
        law(x, "5 + tall / lamp");
        due("by 0 it is 0", x.bearing(1, 50, 0, 0), 5);
        due("by 1", x.bearing(1, 50, 0, 1), 55);
        law(x, "2 + 3 * 4");
        due("products ahead", x.bearing(1, 0, 0, 0), 14);
        law(x, "999 * 999 * 999 * 999 * 999 + 999");
        int wraps = 999 * 999 * 999;
        wraps = wraps * 999;
        wraps = wraps * 999 + 999;
        due("wraps", x.bearing(1, 0, 0, 0), Math.max(0, Math.min(999, wraps)));
        law(x, "65 * 999 * 999 * 67 / 999 / 999");
        int part = 65 * 999 * 999;
        part = part * 67 / 999 / 999;
        due("wraps and cuts", x.bearing(1, 0, 0, 0), Math.max(0, Math.min(999, part)));
        law(x, "least [ tall , most [ hour , shades ] ] + 100 * lamp");
        due("least and most", x.bearing(4, 50, 9, 0), 9);
        due("shades", x.bearing(10, 50, 9, 0), 10);
        due("tall", x.bearing(4, 3, 9, 1), 103);
        feed(x, "1".repeat(160));
        argument("law 151", () -> x.law(151));
        argument("law -1", () -> x.law(-1));
        due("the tape stays", x.count(1), 160);
        due("law 150", x.law(150), -8);
        due("fault", x.fault(), 0);
        due("the law stays", x.bearing(4, 3, 9, 1), 103);
        due("nothing is no law", x.law(0), -9);
        argument("law beyond the tape", () -> x.law(1));
    }

    private static void moving() {
        promise = 5;
        ShadeBeams x = street(DAYTIME + "beam 1 3 1;");
        due("it falls at once", x.falls(0), 0);
        ShadeBeams y = street("wide 10;post 0 3;sun 0 1 10;beam 1 3 1;");
        due("it does not", y.falls(0), -1);
        due("moves", moves(y, "9 0 4; 5 0 2;5 0 0;"), 3);
        due("told", y.told(6), 3);
        due("ahead of the move", y.lies(0, 4), 1);
        due("the last of one hour", y.lies(0, 5), 0);
        due("up to the next one", y.lies(0, 8), 0);
        due("it falls as it is moved off the shade", y.falls(0), 9);
        due("a move of what has fallen", moves(y, "9 0 4;10 0 0;"), 2);
        due("does nothing", y.lies(0, 10), -1);
        due("a fault", moves(y, "9 0 4;10 0 8;"), -8);
        due("at X", y.fault(), 11);
        due("moves stay", y.told(6), 2);
        due("beyond the beams", moves(y, "9 1 4;"), -8);
        due("at B", y.fault(), 2);
        due("none", y.moves(0), 0);
        due("told", y.told(6), 0);
        feed(y, " ".repeat(160));
        argument("moves 151", () -> y.moves(151));
        due("blanks", y.moves(150), 0);
        argument("moves 1", () -> y.moves(1));
    }

    private static void books() {
        promise = 6;
        ShadeBeams x = street("beam 0 2 1;beam 0 2 1;");
        due("book", book(x, "0 0;1 24; 0 23 ;"), 3);
        due("told", x.told(7), 3);
        due("a fault", book(x, "0 25;"), -8);
        due("book stays", x.told(7), 3);
        due("no such beam", book(x, "0 1;2 0;"), -8);
        due("fault", x.fault(), 4);
        due("ends too early", book(x, "0 1;0"), -9);
        due("fault", x.fault(), 5);
        feed(x, " ".repeat(120));
        argument("book 101", () -> x.book(101));
        due("blanks", x.book(100), 0);
        argument("book 1", () -> x.book(1));
        argument("book -1", () -> x.book(-1));
    }

    private static void faults() {
        promise = 7;
        ShadeBeams x = new ShadeBeams();
        due("none", x.fault(), -1);
        law(x, "1 + ");
        due("at the length", x.fault(), 4);
        argument("law 1", () -> x.law(1));
        due("no text, no change", x.fault(), 4);
        law(x, "1 + ?");
        due("at the byte", x.fault(), 4);
        x.street(0);
        due("none again", x.fault(), -1);
    }

    private static void toldThings() {
        promise = 8;
        ShadeBeams x = street("wide 40;post 39 1;lamp 0 9;lamp 0 9;cloud 1 2;cloud 2 3;cloud 3 4;moon 1 0 1;beam 0 2 1;");
        int[] told = {40, 1, 1, 2, 3, 1, 0, 0, 0};
        for (int w = 0; w < told.length; w++) {
            due("told " + w, x.told(w), told[w]);
        }
        x.day(399);
        due("told 8", x.told(8), 399);
        argument("told 9", () -> x.told(9));
        argument("told -1", () -> x.told(-1));
        argument("told MIN", () -> x.told(Integer.MIN_VALUE));
    }

    private static void postsAndBeams() {
        promise = 9;
        ShadeBeams x = street("post 7 99;post 3 1;beam 4 5 3;load 0 0 7;load 0 4 9;load 0 0 2;");
        due("X", x.post(0, 0), 7);
        due("H", x.post(0, 1), 99);
        due("X", x.post(1, 0), 3);
        element("post 2", () -> x.post(2, 0));
        element("post -1, first of all", () -> x.post(-1, 9));
        argument("what 2", () -> x.post(1, 2));
        promise = 10;
        due("X", x.beam(0, 0), 4);
        due("L", x.beam(0, 1), 5);
        due("M", x.beam(0, 2), 3);
        due("all: 5 times 3, 2 and 9", x.beam(0, 3), 26);
        element("beam 1", () -> x.beam(1, 7));
        argument("what 4", () -> x.beam(0, 4));
    }

    private static void lights() {
        promise = 11;
        ShadeBeams x = street("sun 5 0 7;sun 10 1 99;sun 5 1 8;sun 20 0 3;dusk 3;dusk 18;moon 3 1 9;moon 2 1 4;cloud 12 13;");
        int[][] due = {{4, 0, 0, 0}, {5, 1, 8, 1}, {9, 1, 8, 1}, {10, 1, 99, 1}, {12, 0, 0, 0}, {14, 1, 99, 1}, {18, 0, 0, 0}, {20, 0, 0, 0}};
        for (int[] d : due) {
            for (int w = 0; w < 3; w++) {
                due("light " + d[0] + " " + w, x.light(d[0], w), d[1 + w]);
            }
        }
        x.day(1);
        due("of several moons the first", x.light(4, 1), 9);
        due("a moon", x.light(4, 0), 2);
        due("to the right", x.light(4, 2), 1);
        due("not ahead of the sun", x.light(5, 0), 1);
        due("nor in a cloud", x.light(13, 0), 0);
        x.day(3);
        due("the second", x.light(23, 1), 4);
        argument("hour 24", () -> x.light(24, 0));
        argument("hour -1", () -> x.light(-1, 0));
        argument("what 3", () -> x.light(0, 3));
        ShadeBeams y = street("sun 0 0 0;moon 1 0 5;");
        due("a sun of no length is a sun", y.light(0, 0), 1);
        due("its direction", y.light(0, 2), 0);
    }

    private static void shades() {
        promise = 12;
        ShadeBeams x = street("wide 12;post 5 3;sun 0 1 13;sun 4 0 13;cloud 0 1;cloud 5 6;cloud 7 7;lamp 3 0;lamp 6 1;");
        // 3 high by 13 tenths: 3 cells (39 by 10, cut).
        due("next to it", x.shade(6, 0, 2) ? 1 : 0, 1);
        due("the last", x.shade(8, 0, 2) ? 1 : 0, 1);
        due("beyond", x.shade(9, 0, 2) ? 1 : 0, 0);
        due("its own cell", x.shade(5, 0, 2) ? 1 : 0, 0);
        due("the other side", x.shade(4, 0, 2) ? 1 : 0, 0);
        due("to the left", x.shade(2, 0, 4) ? 1 : 0, 1);
        due("not beyond", x.shade(1, 0, 4) ? 1 : 0, 0);
        due("a cloud from hour 0 keeps none", x.shade(6, 0, 0) ? 1 : 0, 0);
        due("nor later in it", x.shade(6, 0, 1) ? 1 : 0, 0);
        due("a lamp keeps what lay in hour 4", x.shade(3, 0, 5) ? 1 : 0, 1);
        due("clouds that touch are one", x.shade(3, 0, 7) ? 1 : 0, 1);
        due("not where no lamp reaches", x.shade(4, 0, 5) ? 1 : 0, 0);
        due("a lamp makes no shade", x.shade(6, 0, 5) ? 1 : 0, 0);
        index("cell ahead of all", () -> x.shade(12, 9, 99));
        index("cell -1", () -> x.shade(-1, 0, 0));
        element("then the post", () -> x.shade(0, 1, 99));
        argument("then the hour", () -> x.shade(0, 0, 24));
    }

    private static void bearings() {
        promise = 13;
        ShadeBeams x = street("wide 8;post 2 3;post 4 9;sun 0 1 10;cloud 9 10;lamp 6 0;");
        due("a post", x.bears(2, 0), 999);
        due("a post in a cloud", x.bears(4, 9), 999);
        due("one shade", x.bears(3, 0), 20);
        due("two shades", x.bears(5, 0), 40);
        due("one again", x.bears(6, 0), 20);
        due("none", x.bears(1, 0), 0);
        due("in a cloud by a lamp", x.bears(6, 10), 20);
        due("in a cloud without", x.bears(5, 10), 0);
        law(x, "tall * 10 + hour - lamp * 1");
        due("of the highest", x.bears(5, 3), 93);
        due("of the other", x.bears(3, 3), 33);
        due("in a cloud the hour that is", x.bears(6, 10), 99);
        law(x, "0 - 5");
        due("0 at least", x.bears(5, 3), 0);
        law(x, "999 + shades");
        due("999 at most", x.bears(5, 3), 999);
        due("no shades, no law", x.bears(0, 3), 0);
        index("cell 8", () -> x.bears(8, 99));
        argument("hour 24", () -> x.bears(7, 24));
        promise = 14;
        due("999 at most", x.bearing(1, 0, 0, 0), 999);
        due("without shades", x.bearing(0, 99, 23, 1), 0);
        law(x, "shades + tall * 2 + hour * 3 + lamp * 100");
        due("by all", x.bearing(10, 99, 23, 1), 10 + 198 + 69 + 100);
        argument("shades 11", () -> x.bearing(11, 0, 0, 0));
        argument("shades -1", () -> x.bearing(-1, 0, 0, 0));
        argument("tall 100", () -> x.bearing(0, 100, 0, 0));
        argument("tall -1", () -> x.bearing(0, -1, 0, 0));
        argument("hour 24", () -> x.bearing(0, 0, 24, 0));
        argument("lamp 2", () -> x.bearing(0, 0, 0, 2));
    }

    private static void resting() {
        promise = 15;
        // Beam 0: 3 cells, 1 each and 1 more in the middle: 2 and 2. Beam 1: 4 cells, 2 each, 5 on cell 1: 8/2 + 10/3, 4 + 5/3.
        ShadeBeams x = street("wide 9;post 0 1;post 2 1;post 5 1;beam 0 3 1;load 0 1 1;beam 2 4 2;load 1 1 5;");
        due("left", x.rests(0, 0, 0), 2);
        due("below", x.rests(0, 0, 1), 1);
        due("both: 2 + 4 + 10/3", x.rests(2, 23, 0), 28);
        due("below", x.rests(2, 23, 1), 3);
        due("right: 4 + 5/3", x.rests(5, 7, 0), 17);
        due("in the middle nothing", x.rests(3, 7, 0), 0);
        due("below nothing", x.rests(3, 7, 1), 1);
        index("cell 9", () -> x.rests(9, 30, 0));
        argument("hour", () -> x.rests(0, 24, 0));
        argument("what", () -> x.rests(0, 0, 2));
        promise = 16;
        due("left", x.puts(1, 0, 0), 22);
        due("left, below", x.puts(1, 0, 1), 3);
        due("right", x.puts(1, 1, 0), 17);
        due("right, below", x.puts(1, 1, 1), 3);
        due("whole", x.puts(0, 1, 1), 1);
        element("beam 2", () -> x.puts(2, 9, 9));
        argument("end 2", () -> x.puts(0, 2, 0));
        argument("what 2", () -> x.puts(0, 0, 2));
        promise = 41;
        due("slack of a post: 999 less 28/3", x.slack(2, 0, 0), 999 * 3 - 28);
        due("below", x.slack(2, 0, 1), 3);
        due("nothing on nothing", x.slack(8, 0, 0), 0);
        due("below", x.slack(8, 0, 1), 1);
        index("cell -1", () -> x.slack(-1, 0, 0));
        argument("hour", () -> x.slack(0, -1, 0));
        argument("what", () -> x.slack(0, 0, -1));
    }

    private static void falling() {
        promise = 17;
        // One shade bears 20. Cell 3: beam 0 puts 12, beam 1 9: too much. The least falls, and the other stays.
        ShadeBeams x = street("wide 8;post 0 9;sun 0 1 10;beam 0 4 6;beam 3 3 6;beam 6 2 1;");
        due("the least falls", x.falls(0), 0);
        due("by that the other one does not", x.falls(1), -1);
        due("nor the third", x.falls(2), -1);
        ShadeBeams y = street("wide 8;post 0 3;sun 0 1 10;sun 5 1 0;beam 6 2 1;beam 1 3 1;beam 0 2 1;");
        due("nothing bears it", y.falls(0), 0);
        due("as the sun is high", y.falls(1), 5);
        due("likewise", y.falls(2), 5);
        element("beam 3", () -> y.falls(3));
        element("beam -1", () -> y.falls(-1));
        promise = 18;
        due("fallen in the hour", y.lies(0, 0), -1);
        due("lies yet", y.lies(1, 4), 1);
        due("no more", y.lies(1, 5), -1);
        element("beam first", () -> y.lies(3, 24));
        argument("hour", () -> y.lies(0, 24));
        promise = 19;
        due("bits", y.fallen(), 7);
        due("bits", x.fallen(), 1);
        promise = 20;
        due("first", y.order(0), 0);
        due("second", y.order(1), 1);
        due("third", y.order(2), 2);
        due("none", y.order(3), -1);
        due("none", y.order(-1), -1);
        due("none", y.order(Integer.MAX_VALUE), -1);
        // Exactly as much as it bears does not fall: beam of 2 cells, 1 each, 19 more on the right one: 20 on the shade.
        ShadeBeams z = street("wide 8;post 0 9;sun 0 1 10;beam 0 2 1;load 0 1 19;");
        due("as much as it bears", z.falls(0), -1);
        z.put(0, 1, 20);
        due("more", z.falls(0), 0);
        // Falls across hours keep their order by time, not by number.
        ShadeBeams v = street("wide 8;post 0 9;sun 0 1 10;sun 9 1 3;beam 5 3 1;beam 1 2 9;load 1 0 50;");
        due("the second ahead", v.order(0), 1);
        due("then the first", v.order(1), 0);
    }

    private static void days() {
        promise = 21;
        ShadeBeams x = street("wide 8;post 0 9;moon 2 1 10;beam 0 3 1;");
        due("was", x.day(399), 0);
        due("with a moon", x.fallen(), 0);
        due("was", x.day(0), 399);
        due("without", x.fallen(), 1);
        argument("day 400", () -> x.day(400));
        argument("day -1", () -> x.day(-1));
        due("stays", x.told(8), 0);
        promise = 30;
        due("odd days", x.whole(0, 399), 200);
        due("one day", x.whole(1, 1), 1);
        due("another", x.whole(2, 2), 0);
        argument("F above T", () -> x.whole(2, 1));
        argument("no such day", () -> x.whole(0, 400));
        argument("no such day", () -> x.whole(-1, 4));
        promise = 31;
        due("from 4 on", x.next(4), 5);
        due("from 5 on", x.next(5), 5);
        due("the last", x.next(399), 399);
        argument("day 400", () -> x.next(400));
        ShadeBeams y = street("wide 8;post 0 9;moon 60 7 10;beam 0 3 1;");
        due("not to 399", y.next(368), -1);
        due("the last of them", y.next(367), 367);
        due("how many", y.whole(0, 399), 7);
        due("the day is not changed", y.told(8), 0);
    }

    private static void carrying() {
        promise = 22;
        // The shade of 3 cells lies on 1 to 3 up to hour 11, on 5 to 7 from 12 on (post on 4, to the left, then to the right).
        ShadeBeams x = street("wide 9;post 4 3;sun 0 0 10;sun 12 1 10;beam 0 2 1;");
        due("one cell: to 1", x.kept(0, 3, 5), 1);
        due("one and then two: to 3, that is 3 and 4", x.kept(0, 0, 23), 4);
        due("only the right side: to 4", x.kept(0, 12, 12), 4);
        argument("F above T", () -> x.kept(0, 5, 4));
        argument("hour 24", () -> x.kept(0, 5, 24));
        element("beam 1", () -> x.kept(1, 5, 4));
        promise = 23;
        due("the least cell first", x.carry(0, 0, 23, 0), 1);
        due("as long as it stands", x.carry(0, 0, 23, 11), 1);
        due("then as far as needed", x.carry(0, 0, 23, 12), 4);
        due("to the end", x.carry(0, 0, 23, 23), 4);
        argument("hour outside", () -> x.carry(0, 3, 5, 6));
        argument("hour outside", () -> x.carry(0, 3, 5, 2));
        element("beam first", () -> x.carry(-1, 5, 4, 9));
        ShadeBeams y = street("wide 9;beam 0 2 1;");
        due("it can't be", y.kept(0, 0, 0), -1);
        promise = 22;
        due("it can't be", y.carry(0, 0, 0, 0), -1);
    }

    private static void lighting() {
        promise = 24;
        ShadeBeams x = street("wide 10;post 0 99;sun 0 1 10;cloud 9 10;beam 1 4 1;beam 6 3 1;beam 0 2 1;");
        due("all fall in the cloud", x.fallen(), 7);
        due("beam 0: lamps on 1 and 4", x.lit(1, 0, 0), 2);
        due("their cells", x.lit(1, 0, 1), 1 * 64 + 4);
        due("one lamp of 2: on 2", x.lit(1, 2, 0), 1);
        due("its cell", x.lit(1, 2, 1), 2);
        due("beams 0 and 2 by 1 and 4", x.lit(5, 0, 1), 1 * 64 + 4);
        due("beams 0 and 1: four cells", x.lit(3, 0, 0), -1);
        due("their cells", x.lit(3, 0, 1), -1);
        due("beams 0 and 1 by two of 2, on 0 (to 2) and 6 (4 to 8)", x.lit(3, 2, 1), 0 * 64 + 6);
        due("beams 1 and 2: 1, 6, 8", x.lit(6, 0, 1), (1 * 64 + 6) * 64 + 8);
        due("no beams", x.lit(0, 9, 0), 0);
        due("no cells", x.lit(0, 9, 1), 0);
        argument("no such beam", () -> x.lit(8, 0, 0));
        argument("no such beams", () -> x.lit(-1, 0, 0));
        argument("R 10", () -> x.lit(1, 10, 0));
        argument("R -1", () -> x.lit(1, -1, 0));
        argument("what 2", () -> x.lit(1, 0, 2));
        due("nothing is changed", x.told(3), 0);
        due("nothing is changed", x.fallen(), 7);
    }

    private static void towers() {
        promise = 25;
        // Without light only posts bear: a beam from the post on 0 to 3 needs one on 3.
        ShadeBeams x = street("wide 8;post 0 5;beam 0 4 1;beam 5 3 1;");
        due("on 3", x.tower(9, 0), 3);
        due("one falls then", x.tower(9, 1), 1);
        argument("H 0", () -> x.tower(0, 0));
        argument("H 100", () -> x.tower(100, 0));
        argument("what 2", () -> x.tower(9, 2));
        ShadeBeams y = street("wide 4;post 0 1;post 1 1;post 2 1;post 3 1;beam 0 2 1;");
        due("a post on each cell", y.tower(9, 0), -1);
        due("a post on each cell", y.tower(9, 1), -1);
        String ten = "post 0 1;post 1 1;post 2 1;post 3 1;post 4 1;post 5 1;post 6 1;post 7 1;post 8 1;post 9 1;";
        ShadeBeams z = street(ten + "beam 0 12 1;");
        due("there are 10", z.tower(9, 0), -1);
        due("there are 10", z.tower(9, 1), -1);
        argument("what ahead of that", () -> z.tower(9, 2));
        promise = 26;
        due("without it one more falls", street("wide 8;post 0 5;post 3 5;beam 0 4 1;beam 3 2 1;").worth(0), 1);
        // The second post's shade bears nothing by the law where it is high: without it fewer fall.
        ShadeBeams v = street("wide 9;post 0 5;post 3 50;sun 0 1 10;beam 4 2 1;");
        law(v, "10 - tall");
        due("fewer fall without it", v.worth(1), -1);
        due("none by the other", v.worth(0), 0);
        element("post 2", () -> v.worth(2));
        due("nothing is changed", v.told(1), 2);
    }

    private static void walking() {
        promise = 27;
        ShadeBeams x = street("wide 12;post 2 3;post 9 1;sun 0 1 10;sun 5 1 30;dusk 12;");
        // 2 to 5 and 9, 10; from 5 on 2 to 11; from 12 on 2 and 9 alone.
        due("there he is", x.walk(3, 3, 4, 1), 4);
        due("one on", x.walk(3, 4, 4, 1), 5);
        due("over what lies between", x.walk(5, 9, 0, 4), 1);
        due("waits for the shade", x.walk(5, 8, 0, 3), 5);
        due("step by step", x.walk(2, 5, 0, 1), 3);
        due("nothing bears him", x.walk(0, 2, 0, 9), -1);
        due("nothing where he goes", x.walk(3, 0, 0, 9), -1);
        due("too late", x.walk(2, 11, 10, 4), -1);
        due("the last hours", x.walk(2, 9, 22, 7), 23);
        due("not behind 23", x.walk(2, 9, 23, 7), -1);
        due("not in time", x.walk(2, 9, 22, 6), -1);
        index("cell 12", () -> x.walk(12, 0, 99, 99));
        index("to 12", () -> x.walk(0, 12, 99, 99));
        argument("hour", () -> x.walk(0, 0, 24, 1));
        argument("G 0", () -> x.walk(0, 0, 0, 0));
        argument("G 10", () -> x.walk(0, 0, 0, 10));
    }

    /** Only what a street's text tells ends at ten posts: one that is missing may be the eleventh. */
    private static void missingBesideTen() {
        String ten = "post 0 1;post 1 1;post 2 1;post 3 1;post 4 1;post 5 1;post 6 1;post 7 1;post 8 1;post 9 1;";
        ShadeBeams x = street(ten + "beam 0 12 1;");
        due("an empty book is right by all", x.missing(9, 0), 10);
        due("the first", x.missing(9, 1), 10);
        book(x, "0 24;");
        due("the beam stands by 11 alone", x.missing(9, 0), 1);
        due("the first", x.missing(9, 1), 11);
        due("ten are told yet", x.told(1), 10);
        due("no tower more", x.tower(9, 0), -1);
        // All eleven shades lie on 12, if the eleventh is 2 high on 10 or 1 high on 11: the law asks for them.
        ShadeBeams y = street("wide 13;post 0 12;post 1 12;post 2 12;post 3 12;post 4 12;post 5 12;post 6 12;post 7 12;"
                + "post 8 12;post 9 12;sun 0 1 10;beam 9 4 1;");
        law(y, "(shades - 10) * 9");
        book(y, "0 24;");
        due("by shades of 10 and 11, and a post on 12", y.missing(2, 0), 3);
        due("by 10 first", y.missing(2, 1), 10);
        due("by 11 and 12", y.missing(1, 0), 2);
        due("by 11 first", y.missing(1, 1), 11);
        ShadeBeams z = street("wide 10;" + ten);
        due("a post on each cell", z.missing(9, 0), 0);
        due("a post on each cell", z.missing(9, 1), -1);
    }

    private static void missingPosts() {
        promise = 28;
        ShadeBeams x = street("wide 8;post 0 5;beam 0 4 1;beam 5 3 1;");
        due("an empty book is right by all", x.missing(5, 0), 7);
        due("the first", x.missing(5, 1), 1);
        book(x, "0 24;1 0;");
        due("beam 0 stands by 3 alone", x.missing(5, 0), 1);
        due("the first", x.missing(5, 1), 3);
        book(x, "0 24;1 24;");
        due("by none", x.missing(5, 0), 0);
        due("by none", x.missing(5, 1), -1);
        argument("H 0", () -> x.missing(0, 0));
        argument("H 100", () -> x.missing(100, 0));
        argument("what 2", () -> x.missing(1, 2));
        missingBesideTen();
        promise = 29;
        book(x, "0 0;1 0;0 0;");
        due("all", x.right(), 3);
        book(x, "0 0;1 24;0 0;");
        due("from the first on", x.right(), 1);
        book(x, "0 24;1 0;");
        due("none", x.right(), 0);
        book(x, "");
        due("no lines", x.right(), 0);
    }

    private static void chances() {
        promise = 32;
        ShadeBeams x = street("wide 10;post 0 9;sun 0 1 10;dusk 20;cloud 5 6;lamp 1 0;beam 0 2 1;beam 2 2 1;beam 0 3 1;");
        due("a lamp holds it", x.odds(0, 4, 7, 5, 0), 1);
        due("below", x.odds(0, 4, 7, 5, 1), 1);
        due("four hours by 11 of 16", x.odds(1, 4, 7, 5, 0), 11 * 11 * 11 * 11);
        due("below", x.odds(1, 4, 7, 5, 1), 65536);
        due("in least terms", x.odds(1, 4, 5, 4, 0), 9);
        due("below", x.odds(1, 4, 5, 4, 1), 16);
        due("12 hours by 15 of 16", x.odds(1, 0, 11, 1, 1), 1L << 48);
        due("above", x.odds(1, 0, 11, 1, 0), 129746337890625L);
        due("in hour 0 a lamp holds nothing", x.odds(0, 0, 0, 8, 1), 2);
        due("Q 16", x.odds(1, 4, 7, 16, 0), 0);
        due("below", x.odds(1, 4, 7, 16, 1), 1);
        due("Q 0", x.odds(1, 4, 7, 0, 0), 1);
        due("it does not stand", x.odds(1, 18, 20, 4, 0), 0);
        due("below", x.odds(1, 18, 20, 4, 1), 1);
        element("beam", () -> x.odds(3, 4, 3, 4, 0));
        argument("F above T", () -> x.odds(0, 4, 3, 4, 0));
        argument("13 hours", () -> x.odds(0, 4, 16, 4, 0));
        argument("Q 17", () -> x.odds(0, 4, 5, 17, 0));
        argument("Q -1", () -> x.odds(0, 4, 5, -1, 0));
        argument("what 2", () -> x.odds(0, 4, 5, 4, 2));
        promise = 33;
        ShadeBeams y = street("wide 10;post 0 9;sun 0 1 10;beam 1 2 1;beam 0 2 1;");
        due("no clouds", y.drawn(5, 0), 0);
        due("clouds in all hours", y.drawn(5, 16), 3);
        // Seed 0 becomes 12345 first: its bits 16 to 19 are 0, a cloud in hour 0 by each Q above 0.
        due("a cloud in hour 0", y.drawn(0, 1), 3);
        argument("Q 17", () -> y.drawn(0, 17));
        argument("Q -1", () -> y.drawn(0, -1));
        due("nothing is changed", y.fallen(), 0);
        promise = 34;
        due("fewest", y.span(5, 40, 0, 0, 0), 0);
        due("most", y.span(5, 40, 16, 1, 0), 2);
        due("by how many", y.span(Integer.MAX_VALUE, 40, 16, 2, 1), 40);
        due("one seed", y.span(0, 1, 1, 0, 0), 2);
        argument("many 0", () -> y.span(5, 0, 0, 0, 0));
        argument("many 41", () -> y.span(5, 41, 0, 0, 0));
        argument("Q 17", () -> y.span(5, 1, 17, 0, 0));
        argument("what 3", () -> y.span(5, 1, 0, 3, 0));
        argument("beam 2, what 0", () -> y.span(5, 1, 0, 0, 2));
        argument("beam -1, what 2", () -> y.span(5, 1, 0, 2, -1));
    }

    private static void offers() {
        promise = 35;
        // Post on 4, 3 high: cells 1 to 3 up to hour 5, then 5 to 7; posts bear always. Beam of 3, weight 2 each: 3 and 3.
        ShadeBeams x = street("wide 10;post 4 3;sun 0 0 10;sun 6 1 10;dusk 18;beam 5 3 2;load 0 2 4;post 9 1;");
        due("left ends 1, 2", x.places(0, 0, 0), 2);
        due("the first", x.places(0, 0, 1), 1);
        due("the last", x.places(0, 0, 2), 2);
        due("left ends 4, 5, 7", x.places(0, 6, 0), 3);
        due("the last", x.places(0, 6, 2), 7);
        due("none by night", x.places(0, 18, 0), 0);
        due("first", x.places(0, 18, 1), -1);
        due("last", x.places(0, 18, 2), -1);
        element("beam", () -> x.places(1, 24, 0));
        argument("hour", () -> x.places(0, 24, 0));
        argument("what", () -> x.places(0, 0, 3));
        promise = 36;
        due("1 to 4", x.row(0, 0), 4);
        due("its first", x.row(0, 1), 1);
        due("4 to 7", x.row(6, 1), 4);
        due("by night the first of two", x.row(18, 1), 4);
        due("one", x.row(18, 0), 1);
        argument("hour", () -> x.row(24, 0));
        argument("what", () -> x.row(0, 2));
        promise = 37;
        due("most in hour 6, with the post on 9 in reach", x.best(0), 6);
        due("no place at all: hour 0", street("beam 0 2 1;").best(0), 0);
        element("beam", () -> x.best(1));
        promise = 38;
        due("hours 6 to 17", x.held(0), 0x3ffc0);
        element("beam", () -> x.held(-1));
        promise = 39;
        // 6 hours of 3 cells to the left, 12 of 3 to the right; post 1's shade: none to the left in reach but cell 8.
        due("share of post 0", x.share(0), 6 * 3 + 12 * 3);
        due("share of post 1: cell 8 in 6 hours", x.share(1), 6);
        element("post", () -> x.share(2));
        promise = 40;
        due("two posts, 4 shades", x.summed(0, 0), 2 * 999 + 4 * 20);
        due("none crossed", x.summed(0, 1), 0);
        due("posts alone", x.summed(23, 0), 2 * 999);
        ShadeBeams y = street("wide 6;post 0 9;post 1 9;sun 0 1 10;");
        due("crossed: 2 to 5", y.summed(0, 1), 4);
        due("summed", y.summed(0, 0), 2 * 999 + 4 * 40);
        due("on a post lies one shade: 24 hours of cell 1", y.share(0), 24);
        argument("hour", () -> x.summed(-1, 0));
        argument("what", () -> x.summed(0, 2));
        promise = 45;
        due("0 and 5 to 7 in the morning", x.bare(0, 5), 4);
        due("all day: 0", x.bare(0, 23), 1);
        due("by night all but two", x.bare(18, 23), 8);
        argument("F above T", () -> x.bare(5, 4));
        argument("hour 24", () -> x.bare(5, 24));
    }

    private static void loads() {
        promise = 42;
        // A shade bears 20: left end on the post; without the load on 3 (all on the right end) it stands.
        ShadeBeams x = street("wide 9;post 0 9;sun 0 1 10;beam 0 4 1;load 0 1 3;load 0 3 30;load 0 2 0;beam 4 2 1;");
        due("it falls", x.falls(0), 0);
        due("without that on 3", x.lighter(0), 3);
        due("no load", x.lighter(1), -1);
        due("as before", x.beam(0, 3), 37);
        due("as before", x.falls(0), 0);
        x.put(0, 3, 0);
        due("of alike ones the first", x.lighter(0), 1);
        x.put(0, 0, 5);
        due("of alike ones the first", x.lighter(0), 0);
        element("beam", () -> x.lighter(2));
        promise = 43;
        due("all hours", x.lasts(0), 24);
        due("none", street("beam 0 2 1;").lasts(0), 0);
        due("up to dusk", street("post 0 9;sun 0 1 10;dusk 7;beam 0 2 1;").lasts(0), 7);
        element("beam", () -> x.lasts(2));
        promise = 44;
        // 2 cells of 9: 9 on one end. 4 cells of 4: 8. 3 cells of 1 with 8 at an end: 9 1/2. The same again.
        due("most on one end", street("beam 0 2 9;beam 0 4 4;beam 0 3 1;load 2 2 8;beam 0 3 1;load 3 0 8;").heaviest(), 2);
        due("none", new ShadeBeams().heaviest(), -1);
    }

    private static void changing() {
        promise = 46;
        ShadeBeams x = street("wide 9;post 0 9;sun 0 1 10;beam 0 4 1;load 0 1 3;");
        due("was", x.build(0, 2), 9);
        due("is", x.post(0, 1), 2);
        due("bears", x.bears(3, 0), 0);
        due("falls by it", x.falls(0), 0);
        element("post", () -> x.build(1, 0));
        argument("H 0", () -> x.build(0, 0));
        argument("H 100", () -> x.build(0, 100));
        promise = 47;
        due("was", x.lay(0, 5), 0);
        due("is", x.beam(0, 0), 5);
        argument("beyond", () -> x.lay(0, 6));
        argument("beyond", () -> x.lay(0, -1));
        element("beam", () -> x.lay(1, 0));
        promise = 48;
        due("was", x.put(0, 1, 99), 3);
        due("is", x.beam(0, 3), 103);
        due("puts", x.puts(0, 0, 0), 68);
        argument("P", () -> x.put(0, 4, 1));
        argument("P", () -> x.put(0, -1, 1));
        argument("M", () -> x.put(0, 0, 100));
        argument("M", () -> x.put(0, 0, -1));
        element("beam", () -> x.put(1, 9, 999));
        promise = 49;
        due("changes", x.count(2), 3);
        due("undo", x.undo(), 2);
        due("load", x.beam(0, 3), 7);
        due("puts", x.puts(0, 0, 0), 4);
        due("undo", x.undo(), 1);
        due("place", x.beam(0, 0), 0);
        due("undo", x.undo(), 0);
        due("height", x.post(0, 1), 9);
        due("falls no more", x.falls(0), -1);
        due("none left", x.undo(), -1);
        for (int i = 0; i < 20; i++) {
            due("put", x.put(0, 0, i + 1), i);
        }
        due("20 changes: put", x.put(0, 0, 50), -1);
        due("20 changes: lay", x.lay(0, 1), -1);
        due("20 changes: build", x.build(0, 1), -1);
        argument("refused ahead of that", () -> x.build(0, 100));
        due("as it was", x.beam(0, 3), 27);
        due("20", x.count(2), 20);
        due("undo", x.undo(), 19);
        due("one more fits", x.lay(0, 1), 0);
        due("and no other", x.lay(0, 2), -1);
    }

    private static void images() {
        promise = 50;
        ShadeBeams x = street("wide 9;post 0 9;sun 0 1 10;beam 0 4 1;");
        x.put(0, 0, 7);
        x.day(11);
        due("image", x.image(), 1);
        x.put(0, 0, 8);
        x.lay(0, 2);
        x.build(0, 4);
        x.day(12);
        due("image", x.image(), 2);
        x.undo();
        due("image", x.image(), 3);
        due("there are 3", x.image(), -1);
        due("count", x.count(0), 3);
        promise = 51;
        x.undo();
        x.undo();
        x.undo();
        law(x, "77");
        moves(x, "3 0 1;");
        due("restore", x.restore(), 2);
        due("changes", x.count(2), 3);
        due("height", x.post(0, 1), 9);
        due("place", x.beam(0, 0), 2);
        due("law stays", x.bearing(1, 0, 0, 0), 77);
        due("moves stay", x.told(6), 1);
        due("restore", x.restore(), 1);
        due("height", x.post(0, 1), 4);
        due("day", x.told(8), 12);
        due("undo", x.undo(), 3);
        due("height", x.post(0, 1), 9);
        due("restore", x.restore(), 0);
        due("day", x.told(8), 11);
        due("load", x.beam(0, 3), 11);
        due("place", x.beam(0, 0), 0);
        due("changes", x.count(2), 1);
        due("undo", x.undo(), 0);
        due("load", x.beam(0, 3), 4);
        due("puts", x.puts(0, 0, 0), 2);
        due("none", x.restore(), -1);
        promise = 52;
        x.image();
        index("cell", () -> x.bears(-1, 0));
        element("beam", () -> x.falls(5));
        element("post", () -> x.worth(5));
        argument("told", () -> x.told(77));
        x.restore();
        due("IndexOutOfBounds", x.status(0), 1);
        due("NoSuchElement", x.status(1), 2);
        due("IllegalArgument", x.status(2), 1);
        due("others", x.status(3), -1);
        due("others", x.status(-1), -1);
        promise = 53;
        x.image();
        x.feed(0, 0, 0, 0, 0);
        x.lay(0, 1);
        due("images", x.count(0), 1);
        due("bytes", x.count(1), 20);
        due("changes", x.count(2), 1);
        due("others", x.count(3), -1);
        due("others", x.count(-1), -1);
    }

    public static void main(String[] args) {
        newObject();
        tape();
        streets();
        laws();
        moving();
        books();
        faults();
        toldThings();
        postsAndBeams();
        lights();
        shades();
        bearings();
        resting();
        falling();
        days();
        carrying();
        lighting();
        towers();
        walking();
        missingPosts();
        chances();
        offers();
        loads();
        changing();
        images();
        System.out.println("PromiseTest: " + asked + " answers, " + wrong + " not as due");
        if (wrong != 0) {
            System.exit(1);
        }
    }
}
