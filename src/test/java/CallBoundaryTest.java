import java.util.NoSuchElementException;

/**
 * Calls at the edges of their arguments: the least and the greatest that fits, one below and one beyond; which
 * refusal comes first; changes, images and what is counted. Each sentence of the document has a test of its own.
 */
public final class CallBoundaryTest {
    private static int wrong = 0;
    private static int asked = 0;
    private static int sentences = 0;
    private static String words = "";

    private static final Class<?> CELL = IndexOutOfBoundsException.class;
    private static final Class<?> PART = NoSuchElementException.class;
    private static final Class<?> ARGUMENT = IllegalArgumentException.class;

    interface Case {
        void run();
    }

    interface Call {
        void at(ShadeBeams x, int v);
    }

    private static void sentence(String told, Case c) {
        words = told;
        sentences++;
        c.run();
    }

    private static void say(String what) {
        wrong++;
        System.out.println("\"" + words + "\": " + what);
    }

    private static void due(String call, long got, long want) {
        asked++;
        if (got != want) {
            say(call + " answered " + got + ", due is " + want);
        }
    }

    private static void feed(ShadeBeams x, String text) {
        for (int i = 0; i < text.length(); i += 20) {
            int[] n = new int[5];
            for (int k = 0; k < 20; k++) {
                int c = i + k < text.length() ? text.charAt(i + k) : 0;
                n[k / 4] = n[k / 4] << 8 | c;
            }
            x.feed(n[0], n[1], n[2], n[3], n[4]);
        }
    }

    private static ShadeBeams street(String text) {
        ShadeBeams x = new ShadeBeams();
        feed(x, text);
        due("street '" + text + "' is read", x.street(text.length()) >= 0 ? 1 : 0, 1);
        return x;
    }

    /** Twelve cells, two posts, three beams of 2, 5 and 12 cells. */
    private static ShadeBeams some() {
        return street("wide 12;post 2 9;post 7 4;sun 0 1 10;dusk 20;moon 2 1 9;lamp 4 2;cloud 9 9;beam 2 2 1;beam 3 5 2;beam 0 12 1;load 1 4 7;");
    }

    private static int counted(Class<?> kind) {
        return kind == CELL ? 0 : kind == PART ? 1 : 2;
    }

    /** What the call throws, null if nothing; the refusal is counted once and nothing else. */
    private static Class<?> thrown(ShadeBeams x, String call, Case c) {
        int[] before = {x.status(0), x.status(1), x.status(2)};
        Class<?> kind = null;
        try {
            c.run();
        } catch (RuntimeException e) {
            kind = e.getClass();
        }
        for (int k = 0; k < 3; k++) {
            int more = kind != null && counted(kind) == k ? 1 : 0;
            due("status(" + k + ") behind " + call, x.status(k), before[k] + more);
        }
        return kind;
    }

    private static void throwing(ShadeBeams x, String call, Class<?> want, Case c) {
        asked++;
        Class<?> got = thrown(x, call, c);
        if (got != want) {
            say(call + " threw " + name(got) + ", due is " + name(want));
        }
    }

    private static String name(Class<?> kind) {
        return kind == null ? "nothing" : kind.getSimpleName();
    }

    /** The least and the greatest fit; what is below or beyond is refused, and nothing is changed by that. */
    private static void range(String call, int low, int high, Class<?> kind, Call c) {
        int[] values = {low, high, low - 1, high + 1, low - 1000, high + 1000, Integer.MIN_VALUE, Integer.MAX_VALUE};
        for (int v : values) {
            ShadeBeams x = some();
            boolean fits = v >= low && v <= high;
            throwing(x, call + " with " + v, fits ? null : kind, () -> c.at(x, v));
            if (!fits) {
                dueUnchanged(x, call + " with " + v);
            }
        }
    }

    private static void dueUnchanged(ShadeBeams x, String call) {
        int[] told = {12, 2, 3, 1, 1, 1, 0, 0, 0};
        for (int w = 0; w < told.length; w++) {
            due("told(" + w + ") behind " + call, x.told(w), told[w]);
        }
        int[] left = {2, 3, 0};
        int[] all = {2, 17, 12};
        for (int b = 0; b < 3; b++) {
            due("left end behind " + call, x.beam(b, 0), left[b]);
            due("weight behind " + call, x.beam(b, 3), all[b]);
        }
        due("height behind " + call, x.post(0, 1) * 100 + x.post(1, 1), 904);
        due("images, bytes, changes behind " + call, x.count(0) + x.count(1) + x.count(2), 0);
        due("the fault behind " + call, x.fault(), -1);
    }

    private static void what(String call, int most, Call c) {
        sentence("another what (" + call + ")", () -> range(call + " what", 0, most, ARGUMENT, c));
    }

    private static void hour(String call, Call c) {
        sentence("no such HOUR, 0 to 23 (" + call + ")", () -> range(call + " hour", 0, 23, ARGUMENT, c));
    }

    private static void cell(String call, Call c) {
        sentence("no such CELL (" + call + ")", () -> range(call + " cell", 0, 11, CELL, c));
    }

    private static void post(String call, Call c) {
        sentence("no such POST (" + call + ")", () -> range(call + " post", 0, 1, PART, c));
    }

    private static void beam(String call, Call c) {
        sentence("no such BEAM (" + call + ")", () -> range(call + " beam", 0, 2, PART, c));
    }

    private static void argument(String told, int low, int high, Call c) {
        sentence(told, () -> range(told, low, high, ARGUMENT, c));
    }

    // ---------------------------------------------------------------- arguments

    private static void whats() {
        what("told", 8, (x, v) -> x.told(v));
        what("post", 1, (x, v) -> x.post(1, v));
        what("beam", 3, (x, v) -> x.beam(2, v));
        what("light", 2, (x, v) -> x.light(23, v));
        what("rests", 1, (x, v) -> x.rests(11, 23, v));
        what("puts", 1, (x, v) -> x.puts(0, 0, v));
        what("lit", 1, (x, v) -> x.lit(0, 0, v));
        what("tower", 1, (x, v) -> x.tower(1, v));
        what("missing", 1, (x, v) -> x.missing(1, v));
        what("odds", 1, (x, v) -> x.odds(0, 0, 0, 0, v));
        what("span", 2, (x, v) -> x.span(0, 1, 0, v, 0));
        what("places", 2, (x, v) -> x.places(0, 0, v));
        what("row", 1, (x, v) -> x.row(0, v));
        what("summed", 1, (x, v) -> x.summed(0, v));
        what("slack", 1, (x, v) -> x.slack(0, 0, v));
    }

    private static void hours() {
        hour("light", (x, v) -> x.light(v, 0));
        hour("shade", (x, v) -> x.shade(0, 0, v));
        hour("bears", (x, v) -> x.bears(0, v));
        hour("bearing", (x, v) -> x.bearing(1, 1, v, 0));
        hour("rests", (x, v) -> x.rests(0, v, 0));
        hour("lies", (x, v) -> x.lies(0, v));
        hour("kept, one hour", (x, v) -> x.kept(0, v, v));
        hour("kept, F", (x, v) -> x.kept(0, v, 23));
        hour("kept, T", (x, v) -> x.kept(0, 0, v));
        hour("carry, one hour", (x, v) -> x.carry(0, v, v, v));
        hour("walk", (x, v) -> x.walk(0, 0, v, 1));
        hour("odds, one hour", (x, v) -> x.odds(0, v, v, 0, 0));
        hour("places", (x, v) -> x.places(0, v, 0));
        hour("row", (x, v) -> x.row(v, 0));
        hour("summed", (x, v) -> x.summed(v, 0));
        hour("slack", (x, v) -> x.slack(0, v, 0));
        hour("bare, one hour", (x, v) -> x.bare(v, v));
        hour("bare, F", (x, v) -> x.bare(v, 23));
        hour("bare, T", (x, v) -> x.bare(0, v));
    }

    private static void cellsAndParts() {
        cell("shade", (x, v) -> x.shade(v, 0, 0));
        cell("bears", (x, v) -> x.bears(v, 0));
        cell("rests", (x, v) -> x.rests(v, 0, 0));
        cell("walk, from", (x, v) -> x.walk(v, 0, 0, 1));
        cell("walk, to", (x, v) -> x.walk(0, v, 0, 1));
        cell("slack", (x, v) -> x.slack(v, 0, 0));
        post("post", (x, v) -> x.post(v, 0));
        post("shade", (x, v) -> x.shade(0, v, 0));
        post("worth", (x, v) -> x.worth(v));
        post("share", (x, v) -> x.share(v));
        post("build", (x, v) -> x.build(v, 1));
        beam("beam", (x, v) -> x.beam(v, 0));
        beam("puts", (x, v) -> x.puts(v, 0, 0));
        beam("falls", (x, v) -> x.falls(v));
        beam("lies", (x, v) -> x.lies(v, 0));
        beam("kept", (x, v) -> x.kept(v, 0, 0));
        beam("carry", (x, v) -> x.carry(v, 0, 0, 0));
        beam("odds", (x, v) -> x.odds(v, 0, 0, 0, 0));
        beam("places", (x, v) -> x.places(v, 0, 0));
        beam("best", (x, v) -> x.best(v));
        beam("held", (x, v) -> x.held(v));
        beam("lighter", (x, v) -> x.lighter(v));
        beam("lasts", (x, v) -> x.lasts(v));
        beam("lay", (x, v) -> x.lay(v, 0));
        beam("put", (x, v) -> x.put(v, 0, 0));
    }

    private static void others() {
        argument("so many shades (0 to 10)", 0, 10, (x, v) -> x.bearing(v, 0, 0, 0));
        argument("tall (0 to 99)", 0, 99, (x, v) -> x.bearing(1, v, 0, 0));
        argument("lamp (0, 1)", 0, 1, (x, v) -> x.bearing(1, 0, 0, v));
        argument("on its left end (end 0), on its right one (1)", 0, 1, (x, v) -> x.puts(0, v, 0));
        argument("The DAY is another one (0 to 399)", 0, 399, (x, v) -> x.day(v));
        argument("no such DAYS (whole)", 0, 399, (x, v) -> x.whole(v, v));
        argument("no such DAYS (whole, F)", 0, 399, (x, v) -> x.whole(v, 399));
        argument("no such DAYS (whole, T)", 0, 399, (x, v) -> x.whole(0, v));
        argument("no such DAY (next)", 0, 399, (x, v) -> x.next(v));
        argument("an HOUR of F to T (carry)", 5, 9, (x, v) -> x.carry(0, 5, 9, v));
        argument("bits of no BEAMS", 0, 7, (x, v) -> x.lit(v, 0, 0));
        argument("LAMPS of R (0 to 9)", 0, 9, (x, v) -> x.lit(0, v, 0));
        argument("TOWER of H (1 to 99)", 1, 99, (x, v) -> x.tower(v, 0));
        argument("MISSING by H (1 to 99)", 1, 99, (x, v) -> x.missing(v, 0));
        argument("up to G CELLS off (G 1 to 9)", 1, 9, (x, v) -> x.walk(0, 0, 0, v));
        argument("Q (0 to 16) of odds", 0, 16, (x, v) -> x.odds(0, 0, 0, v, 0));
        argument("Q (0 to 16) of drawn", 0, 16, (x, v) -> x.drawn(0, v));
        argument("Q (0 to 16) of span", 0, 16, (x, v) -> x.span(0, 1, v, 0, 0));
        argument("so many SEEDS (1 to 40)", 1, 40, (x, v) -> x.span(0, v, 0, 0, 0));
        argument("no such BEAM, for each what: 0", 0, 2, (x, v) -> x.span(0, 1, 0, 0, v));
        argument("no such BEAM, for each what: 1", 0, 2, (x, v) -> x.span(0, 1, 0, 1, v));
        argument("no such BEAM, for each what: 2", 0, 2, (x, v) -> x.span(0, 1, 0, 2, v));
        argument("F above T, more than 12 (odds, T)", 3, 14, (x, v) -> x.odds(0, 3, v, 0, 0));
        argument("F above T, more than 12 (odds, F)", 9, 20, (x, v) -> x.odds(0, v, 20, 0, 0));
        argument("F above T (kept, T)", 5, 23, (x, v) -> x.kept(0, 5, v));
        argument("F above T (kept, F)", 0, 5, (x, v) -> x.kept(0, v, 5));
        argument("F above T (carry, T)", 5, 23, (x, v) -> x.carry(0, 5, v, 5));
        argument("F above T (carry, F)", 0, 5, (x, v) -> x.carry(0, v, 5, 5));
        argument("F above T (bare, T)", 5, 23, (x, v) -> x.bare(5, v));
        argument("F above T (bare, F)", 0, 5, (x, v) -> x.bare(v, 5));
        argument("F above T (whole, T)", 5, 399, (x, v) -> x.whole(5, v));
        argument("F above T (whole, F)", 0, 5, (x, v) -> x.whole(v, 5));
        argument("A POST is H high (1 to 99)", 1, 99, (x, v) -> x.build(1, v));
        argument("beyond the CELLS (2 of 12)", 0, 10, (x, v) -> x.lay(0, v));
        argument("beyond the CELLS (5 of 12)", 0, 7, (x, v) -> x.lay(1, v));
        argument("beyond the CELLS (all of them)", 0, 0, (x, v) -> x.lay(2, v));
        argument("P, 0 to L less 1 (2)", 0, 1, (x, v) -> x.put(0, v, 1));
        argument("P, 0 to L less 1 (5)", 0, 4, (x, v) -> x.put(1, v, 1));
        argument("P, 0 to L less 1 (12)", 0, 11, (x, v) -> x.put(2, v, 1));
        argument("M (0 to 99)", 0, 99, (x, v) -> x.put(0, 1, v));
    }

    private static void emptyAndFull() {
        sentence("no such CELL, POST, BEAM (a STREET without CLAUSES)", () -> {
            ShadeBeams x = new ShadeBeams();
            throwing(x, "bears(19)", null, () -> x.bears(19, 0));
            throwing(x, "bears(20)", CELL, () -> x.bears(20, 0));
            throwing(x, "post(0)", PART, () -> x.post(0, 0));
            throwing(x, "beam(0)", PART, () -> x.beam(0, 0));
            throwing(x, "worth(0)", PART, () -> x.worth(0));
            throwing(x, "lit(0)", null, () -> x.lit(0, 0, 0));
            throwing(x, "lit(1)", ARGUMENT, () -> x.lit(1, 0, 0));
            throwing(x, "span", ARGUMENT, () -> x.span(0, 1, 0, 0, 0));
            throwing(x, "drawn", null, () -> x.drawn(0, 0));
        });
        sentence("no such CELL, POST, BEAM (all that may be told)", () -> {
            ShadeBeams x = street("wide 40;post 0 1;post 1 1;post 2 1;post 3 1;post 4 1;post 5 1;post 6 1;post 7 1;post 8 1;post 9 1;"
                    + "beam 0 2 1;beam 0 2 1;beam 0 2 1;beam 0 2 1;beam 0 2 1;beam 0 2 1;beam 0 2 1;beam 0 20 1;");
            throwing(x, "bears(39)", null, () -> x.bears(39, 0));
            throwing(x, "bears(40)", CELL, () -> x.bears(40, 0));
            throwing(x, "shade(39, 9)", null, () -> x.shade(39, 9, 23));
            throwing(x, "post(10)", PART, () -> x.post(10, 0));
            throwing(x, "share(9)", null, () -> x.share(9));
            throwing(x, "beam(7)", null, () -> x.beam(7, 3));
            throwing(x, "beam(8)", PART, () -> x.beam(8, 0));
            throwing(x, "put(7, 19)", null, () -> x.put(7, 19, 99));
            throwing(x, "put(7, 20)", ARGUMENT, () -> x.put(7, 20, 0));
            throwing(x, "lay(7, 20)", null, () -> x.lay(7, 20));
            throwing(x, "lay(7, 21)", ARGUMENT, () -> x.lay(7, 21));
            throwing(x, "lit(255)", null, () -> x.lit(255, 9, 0));
            throwing(x, "lit(256)", ARGUMENT, () -> x.lit(256, 9, 0));
        });
    }

    // ---------------------------------------------------------------- which comes first

    private static void firstOfAll() {
        sentence("no such CELL (so below, ahead of others)", () -> {
            ShadeBeams x = some();
            throwing(x, "shade: cell, post, hour", CELL, () -> x.shade(12, 2, 24));
            throwing(x, "bears: cell, hour", CELL, () -> x.bears(-1, -1));
            throwing(x, "rests: cell, hour, what", CELL, () -> x.rests(12, 24, 2));
            throwing(x, "walk: cell, all else", CELL, () -> x.walk(12, 0, 24, 0));
            throwing(x, "walk: to, all else", CELL, () -> x.walk(0, 12, 24, 0));
            throwing(x, "slack: cell, hour, what", CELL, () -> x.slack(-1, 24, 2));
        });
        sentence("no such POST, BEAM (so below, ahead of others)", () -> {
            ShadeBeams x = some();
            throwing(x, "post, what", PART, () -> x.post(2, 2));
            throwing(x, "beam, what", PART, () -> x.beam(3, 4));
            throwing(x, "shade: post, hour", PART, () -> x.shade(0, 2, 24));
            throwing(x, "puts: beam, end, what", PART, () -> x.puts(3, 2, 2));
            throwing(x, "lies: beam, hour", PART, () -> x.lies(-1, -1));
            throwing(x, "kept: beam, hours", PART, () -> x.kept(3, 5, 4));
            throwing(x, "carry: beam, hours", PART, () -> x.carry(3, 5, 4, 9));
            throwing(x, "odds: beam, all else", PART, () -> x.odds(3, 24, 0, 17, 2));
            throwing(x, "places: beam, hour, what", PART, () -> x.places(3, 24, 3));
            throwing(x, "build: post, high", PART, () -> x.build(2, 0));
            throwing(x, "lay: beam, cell", PART, () -> x.lay(3, 12));
            throwing(x, "put: beam, at, load", PART, () -> x.put(3, 20, 100));
        });
        sentence("-1: there are 20 changes (what is refused is refused then, too)", () -> {
            ShadeBeams x = some();
            for (int i = 0; i < 20; i++) {
                x.build(0, 9);
            }
            throwing(x, "build: post", PART, () -> x.build(2, 5));
            throwing(x, "build: high", ARGUMENT, () -> x.build(0, 100));
            throwing(x, "lay: beam", PART, () -> x.lay(3, 0));
            throwing(x, "lay: cell", ARGUMENT, () -> x.lay(0, 11));
            throwing(x, "put: beam", PART, () -> x.put(3, 0, 0));
            throwing(x, "put: load", ARGUMENT, () -> x.put(0, 0, 100));
            throwing(x, "build", null, () -> due("build", x.build(0, 5), -1));
        });
        sentence("NONE: there is a POST on each CELL, or there are 10 (what is refused is refused then, too)", () -> {
            ShadeBeams x = street("wide 4;post 0 1;post 1 1;post 2 1;post 3 1;");
            throwing(x, "tower: high", ARGUMENT, () -> x.tower(0, 0));
            throwing(x, "tower: what", ARGUMENT, () -> x.tower(1, 2));
            throwing(x, "missing: high", ARGUMENT, () -> x.missing(100, 0));
            throwing(x, "missing: what", ARGUMENT, () -> x.missing(1, -1));
        });
    }

    // ---------------------------------------------------------------- changes

    private static void changes() {
        sentence("A POST is H high from now on: what it was", () -> {
            ShadeBeams x = street("wide 9;post 0 9;post 1 3;sun 0 1 10;beam 0 4 1;");
            due("falls", x.falls(0), -1);
            due("was", x.build(0, 1), 9);
            due("was", x.build(0, 99), 1);
            due("was", x.build(1, 2), 3);
            due("is", x.post(0, 1), 99);
            due("shade", x.shade(8, 0, 0) ? 1 : 0, 1);
            due("on 3 both", x.bears(3, 0), 40);
            due("and no farther", x.bears(4, 0), 20);
            x.build(0, 2);
            x.build(1, 1);
            due("falls by it", x.falls(0), 0);
            due("on another day, too", x.whole(0, 399), 0);
        });
        sentence("A BEAM is told to lie with its left end on another CELL: where it lay", () -> {
            ShadeBeams x = street("wide 9;post 0 9;sun 0 1 3;beam 0 3 1;load 0 2 1;");
            due("does not fall", x.falls(0), -1);
            due("was", x.lay(0, 6), 0);
            due("is", x.beam(0, 0), 6);
            due("falls", x.falls(0), 0);
            due("was", x.lay(0, 6), 6);
            due("was", x.lay(0, 0), 6);
            due("does not fall", x.falls(0), -1);
            due("lies", x.lies(0, 23), 0);
            due("puts as before", x.puts(0, 1, 0), 5);
            due("changes", x.count(2), 3);
        });
        sentence("The load on CELL P of a BEAM is M: what it was", () -> {
            ShadeBeams x = street("wide 9;post 0 9;sun 0 1 10;beam 0 4 1;load 0 1 3;");
            due("was", x.put(0, 1, 0), 3);
            due("was", x.put(0, 1, 99), 0);
            due("puts", x.puts(0, 0, 0), 2 + 66);
            due("falls", x.falls(0), 0);
            due("was", x.put(0, 3, 18), 0);
            due("was", x.put(0, 1, 0), 99);
            due("just as much", x.falls(0), -1);
            due("puts", x.puts(0, 1, 0), 20);
            due("all", x.beam(0, 3), 22);
        });
        sentence("-1: there are 20 changes", () -> {
            ShadeBeams x = street("wide 9;post 0 9;beam 0 4 1;");
            for (int i = 0; i < 20; i++) {
                due("change " + i, i % 3 == 0 ? x.build(0, 9) : i % 3 == 1 ? x.lay(0, 0) : x.put(0, 0, 0), i % 3 == 0 ? 9 : 0);
                due("changes", x.count(2), i + 1);
            }
            due("build", x.build(0, 5), -1);
            due("lay", x.lay(0, 5), -1);
            due("put", x.put(0, 0, 5), -1);
            due("as it was", x.post(0, 1), 9);
            due("as it was", x.beam(0, 0), 0);
            due("as it was", x.beam(0, 3), 4);
            due("changes", x.count(2), 20);
            due("no refusal", x.status(0) + x.status(1) + x.status(2), 0);
            due("undo", x.undo(), 19);
            due("one more", x.put(0, 0, 5), 0);
            due("no other one", x.put(0, 0, 6), -1);
        });
        sentence("The latest of these three changes that was not undone is undone: how many are left; -1: there is none", () -> {
            ShadeBeams x = street("wide 9;post 0 9;post 2 8;beam 0 4 1;beam 1 4 1;load 1 2 7;");
            due("none", x.undo(), -1);
            x.put(1, 2, 50);
            x.build(1, 1);
            x.lay(1, 5);
            x.build(1, 2);
            x.put(1, 2, 60);
            due("the load", x.undo(), 4);
            due("the load", x.beam(1, 3), 54);
            due("the height", x.undo(), 3);
            due("the height", x.post(1, 1), 1);
            x.lay(0, 3);
            due("the latest", x.undo(), 3);
            due("it lies as before", x.beam(0, 0), 0);
            due("the other one", x.undo(), 2);
            due("it lies as before", x.beam(1, 0), 1);
            due("the height", x.undo(), 1);
            due("the height", x.post(1, 1), 8);
            due("the load", x.undo(), 0);
            due("the load", x.beam(1, 3), 11);
            due("what it puts", x.puts(1, 1, 0) * 3 / x.puts(1, 1, 1), 20);
            due("none", x.undo(), -1);
            for (int i = 0; i < 20; i++) {
                x.lay(0, i % 5 + 1);
            }
            for (int i = 19; i >= 0; i--) {
                due("undo", x.undo(), i);
                due("left end", x.beam(0, 0), i == 0 ? 0 : (i - 1) % 5 + 1);
            }
            due("none", x.undo(), -1);
        });
        sentence("The DAY is another one: what it was (no change that can be undone)", () -> {
            ShadeBeams x = some();
            due("was", x.day(399), 0);
            due("was", x.day(399), 399);
            due("was", x.day(0), 399);
            due("none", x.undo(), -1);
        });
    }

    private static void images() {
        sentence("An IMAGE: how many there are; -1: there are 3", () -> {
            ShadeBeams x = some();
            for (int i = 1; i <= 3; i++) {
                due("image", x.image(), i);
                due("images", x.count(0), i);
            }
            due("a 4th", x.image(), -1);
            due("images", x.count(0), 3);
            due("restore", x.restore(), 2);
            due("one more", x.image(), 3);
            due("a 4th", x.image(), -1);
        });
        sentence("All is as in the latest IMAGE, which is gone: how many are left; -1: there is none", () -> {
            ShadeBeams x = some();
            due("none", x.restore(), -1);
            int[] heights = {30, 40, 50};
            for (int h : heights) {
                x.build(0, h);
                x.day(h);
                x.image();
            }
            x.build(0, 99);
            x.day(99);
            for (int i = 2; i >= 0; i--) {
                due("restore", x.restore(), i);
                due("height", x.post(0, 1), heights[i]);
                due("day", x.told(8), heights[i]);
                due("changes", x.count(2), i + 1);
            }
            due("none", x.restore(), -1);
            due("as it was", x.post(0, 1), 30);
            due("undo", x.undo(), 0);
            due("as told", x.post(0, 1), 9);
        });
        sentence("of heights, where BEAMS are told to lie, loads, the DAY, changes that can be undone", () -> {
            ShadeBeams x = some();
            x.put(1, 4, 9);
            x.lay(0, 5);
            x.day(77);
            x.image();
            x.build(1, 99);
            x.undo();
            x.undo();
            x.undo();
            x.lay(1, 0);
            x.put(2, 11, 50);
            x.day(78);
            due("restore", x.restore(), 0);
            due("height", x.post(1, 1), 4);
            due("left end", x.beam(0, 0), 5);
            due("left end", x.beam(1, 0), 3);
            due("load", x.beam(1, 3), 19);
            due("load", x.beam(2, 3), 12);
            due("what it puts", x.puts(2, 1, 0), 6);
            due("day", x.told(8), 77);
            due("changes", x.count(2), 2);
            due("undo", x.undo(), 1);
            due("left end", x.beam(0, 0), 2);
            due("undo", x.undo(), 0);
            due("load", x.beam(1, 3), 17);
        });
        sentence("loads (of each CELL of each BEAM)", () -> {
            ShadeBeams x = street("wide 40;post 0 1;post 19 1;beam 0 20 1;beam 0 20 1;beam 0 20 1;beam 0 20 1;beam 0 20 1;beam 0 20 1;beam 0 20 1;beam 0 20 1;"
                    + "load 0 0 7;load 0 19 3;load 3 10 19;load 7 0 9;load 7 19 8;");
            x.image();
            x.put(0, 0, 1);
            x.put(0, 19, 2);
            x.put(3, 10, 0);
            x.put(7, 0, 50);
            x.put(7, 19, 60);
            x.lay(7, 20);
            due("restore", x.restore(), 0);
            int[][] ends = {{0, 17, 13}, {7, 19, 18}, {2, 10, 10}};
            for (int[] e : ends) {
                due("left of " + e[0], x.puts(e[0], 0, 0), e[1]);
                due("right of " + e[0], x.puts(e[0], 1, 0), e[2]);
            }
            due("all of 3", x.beam(3, 3), 39);
            due("right of 3", x.puts(3, 1, 0), 20);
            due("left of 3", x.puts(3, 0, 0), 19);
            due("left end", x.beam(7, 0), 0);
            due("rests", x.rests(0, 0, 0), 17 + 19 + 19 + 5 * 10);
        });
        sentence("An IMAGE keeps 20 changes, and none", () -> {
            ShadeBeams x = some();
            x.image();
            for (int i = 0; i < 20; i++) {
                x.build(0, 10 + i);
            }
            x.image();
            for (int i = 0; i < 20; i++) {
                x.undo();
            }
            due("restore", x.restore(), 1);
            due("no room", x.build(0, 5), -1);
            due("undo", x.undo(), 19);
            due("height", x.post(0, 1), 28);
            due("restore", x.restore(), 0);
            due("none", x.undo(), -1);
            due("height", x.post(0, 1), 9);
        });
        sentence("no LAW, MOVES, BOOK in an IMAGE", () -> {
            ShadeBeams x = some();
            x.image();
            feed(x, "77");
            x.law(2);
            feed(x, "3 0 0;");
            x.moves(6);
            feed(x, "0 1;");
            x.book(4);
            x.feed(0, 0, 0, 0, 0);
            due("restore", x.restore(), 0);
            due("law", x.bearing(1, 0, 0, 0), 77);
            due("moves", x.told(6), 1);
            due("lines", x.told(7), 1);
            due("bytes", x.count(1), 20);
        });
    }

    private static void counts() {
        sentence("How many calls were refused; NONE for others. (No IMAGE keeps it.)", () -> {
            ShadeBeams x = some();
            x.image();
            for (int i = 1; i <= 3; i++) {
                throwing(x, "bears", CELL, () -> x.bears(12, 0));
            }
            throwing(x, "falls", PART, () -> x.falls(3));
            throwing(x, "share", PART, () -> x.share(2));
            throwing(x, "told", ARGUMENT, () -> x.told(9));
            x.restore();
            due("0", x.status(0), 3);
            due("1", x.status(1), 2);
            due("2", x.status(2), 1);
            int[] others = {3, 4, -1, Integer.MIN_VALUE, Integer.MAX_VALUE};
            for (int w : others) {
                due("status " + w, x.status(w), -1);
            }
            due("a new street", x.street(0), 0);
            due("0", x.status(0), 3);
        });
        sentence("calls that answer NONE, -1 or a FAULT are not refused", () -> {
            ShadeBeams x = some();
            x.undo();
            x.restore();
            x.order(-1);
            x.status(9);
            x.count(9);
            for (int i = 0; i < 4; i++) {
                x.image();
            }
            for (int i = 0; i < 31; i++) {
                x.feed(0, 0, 0, 0, 0);
            }
            x.law(150);
            due("none", x.status(0) + x.status(1) + x.status(2), 0);
        });
        sentence("0 IMAGES, 1 bytes of the TAPE, 2 changes that can be undone; NONE for others", () -> {
            ShadeBeams x = some();
            x.image();
            x.image();
            for (int i = 0; i < 40; i++) {
                x.feed(0, 0, 0, 0, 0);
            }
            for (int i = 0; i < 30; i++) {
                x.put(0, 0, i);
            }
            due("images", x.count(0), 2);
            due("bytes", x.count(1), 600);
            due("changes", x.count(2), 20);
            int[] others = {3, 4, -1, Integer.MIN_VALUE, Integer.MAX_VALUE};
            for (int w : others) {
                due("count " + w, x.count(w), -1);
            }
        });
        sentence("An object is used for at most 512 calls", () -> {
            ShadeBeams x = new ShadeBeams();
            for (int i = 0; i < 510; i++) {
                try {
                    x.falls(i);
                    say("falls(" + i + ") threw nothing");
                } catch (NoSuchElementException e) {
                    asked++;
                }
            }
            due("the 511th", x.status(1), 510);
            due("the 512th", x.lit(0, 9, 0), 0);
        });
        sentence("A STREET without CLAUSES", CallBoundaryTest::newObject);
        sentence("NONE", () -> due("NONE", ShadeBeams.NONE, -1));
    }

    private static void newObject() {
        ShadeBeams x = new ShadeBeams();
        int[] told = {20, 0, 0, 0, 0, 0, 0, 0, 0};
        for (int w = 0; w < told.length; w++) {
            due("told " + w, x.told(w), told[w]);
        }
        due("fault", x.fault(), -1);
        for (int h = 0; h < 24; h++) {
            due("light", x.light(h, 0) + x.light(h, 1) + x.light(h, 2), 0);
            due("borne", x.summed(h, 0) + x.summed(h, 1) + x.row(h, 0), 0);
            due("rests", x.rests(19, h, 0), 0);
            due("rests, below", x.rests(19, h, 1), 1);
        }
        due("fallen", x.fallen(), 0);
        due("order", x.order(0), -1);
        due("heaviest", x.heaviest(), -1);
        due("right", x.right(), 0);
        due("law", x.bearing(10, 99, 23, 1), 200);
        due("drawn", x.drawn(77, 16), 0);
        due("day", x.day(0), 0);
        due("undo", x.undo(), -1);
        due("restore", x.restore(), -1);
        for (int w = 0; w < 3; w++) {
            due("count " + w, x.count(w), 0);
            due("status " + w, x.status(w), 0);
        }
    }

    public static void main(String[] args) {
        whats();
        hours();
        cellsAndParts();
        others();
        emptyAndFull();
        firstOfAll();
        changes();
        images();
        counts();
        System.out.println("CallBoundaryTest: " + sentences + " sentences, " + asked + " answers, " + wrong + " not as due");
        if (wrong != 0) {
            System.exit(1);
        }
    }
}
