/**
 * What is asked of a day, at its edges: for each sentence of the document that names a boundary case of keeping,
 * lamps, towers, walks, books, days and odds a test of its own, with the sentence's words.
 */
public final class AskBoundaryTest {
    private static int wrong = 0;
    private static int asked = 0;
    private static int sentences = 0;
    private static String words = "";

    interface Case {
        void run();
    }

    private static void sentence(String told, Case c) {
        words = told;
        sentences++;
        c.run();
    }

    private static void due(String call, long got, long want) {
        asked++;
        if (got != want) {
            wrong++;
            System.out.println("\"" + words + "\": " + call + " answered " + got + ", due is " + want);
        }
    }

    private static void feed(ShadeBeams x, String text) {
        for (int i = 0; i < text.length(); i += 20) {
            int[] n = new int[5];
            for (int k = 0; k < 20; k++) {
                int c = i + k < text.length() ? text.charAt(i + k) : 0;
                n[k / 4] = n[k / 4] << 8 | c;
            }
            x.feed(n[0], n[1], n[2], n[3], n[4]);
        }
    }

    private static ShadeBeams street(String text) {
        ShadeBeams x = new ShadeBeams();
        feed(x, text);
        due("street '" + text + "' is read", x.street(text.length()) >= 0 ? 1 : 0, 1);
        return x;
    }

    private static ShadeBeams law(ShadeBeams x, String text) {
        feed(x, text);
        due("law '" + text + "' is read", x.law(text.length()), 1);
        return x;
    }

    private static ShadeBeams moves(ShadeBeams x, String text) {
        feed(x, text);
        due("moves '" + text + "' are read", x.moves(text.length()) >= 0 ? 1 : 0, 1);
        return x;
    }

    private static ShadeBeams book(ShadeBeams x, String text) {
        feed(x, text);
        due("book '" + text + "' is read", x.book(text.length()) >= 0 ? 1 : 0, 1);
        return x;
    }

    /** Cells 1 to 9 lie in the shade of the post on 0 in all hours and bear 20 each. */
    private static final String SHADY = "wide 10;post 0 9;sun 0 1 10;";

    /** The shade lies on 1 to 3 up to hour 11, on 5 to 7 from hour 12 on; the post on 4 bears always. */
    private static final String TURNING = "wide 9;post 4 3;sun 0 0 10;sun 12 1 10;";

    private static final int ALL_HOURS = 0xffffff;

    // ---------------------------------------------------------------- the day that is

    private static void theDayThatIs() {
        // On odd days a moon's shade lies on 1 to 9 in all hours; on even ones nothing but the post bears.
        String moony = "wide 10;post 0 9;moon 2 1 10;beam 1 2 1;";
        sentence("Asked, nothing stays changed; of the DAY that is (0 at first)", () -> {
            ShadeBeams x = book(street(moony), "0 0;");
            dueByNight(x);
            due("was", x.day(399), 0);
            dueByMoon(x);
            x.day(398);
            dueByNight(x);
            x.day(1);
            dueByMoon(x);
            due("was", x.day(0), 1);
            dueByNight(x);
        });
        sentence("On the DAY that is, by all as told", () -> {
            ShadeBeams x = street(moony + "post 1 1;sun 0 0 0;dusk 7;load 0 1 20;load 0 0 1;");
            due("best: all alike by night", x.best(0), 0);
            due("crossed", x.summed(7, 1), 0);
            due("it falls anyway", x.lighter(0), 0);
            x.day(1);
            due("best: as the sun is gone", x.best(0), 7);
            due("crossed: on 2 alone", x.summed(7, 1), 1);
            due("it falls by the sun", x.lighter(0), 0);
            ShadeBeams y = street(moony + "load 0 0 1;load 0 1 20;");
            due("it falls anyway", y.lighter(0), 0);
            y.day(1);
            due("but for the load on its right end", y.lighter(0), 1);
        });
    }

    private static void dueByNight(ShadeBeams x) {
        due("light", x.light(3, 0), 0);
        due("shade", x.shade(5, 0, 3) ? 1 : 0, 0);
        due("bears", x.bears(5, 3), 0);
        due("rests", x.rests(1, 0, 0), 0);
        due("falls", x.falls(0), 0);
        due("lies", x.lies(0, 0), -1);
        due("fallen", x.fallen(), 1);
        due("order", x.order(0), 0);
        due("kept", x.kept(0, 2, 3), -1);
        due("carry", x.carry(0, 2, 3, 3), -1);
        due("lit", x.lit(1, 9, 0), -1);
        due("tower", x.tower(9, 1), 1);
        due("worth", x.worth(0), 0);
        due("walk", x.walk(0, 5, 0, 9), -1);
        due("missing", x.missing(9, 0), 9);
        due("right", x.right(), 1);
        due("odds", x.odds(0, 3, 3, 4, 1), 1);
        due("drawn", x.drawn(0, 0), 1);
        due("span", x.span(0, 1, 0, 0, 0), 1);
        due("places", x.places(0, 3, 0), 0);
        due("row", x.row(3, 0), 1);
        due("held", x.held(0), 0);
        due("share", x.share(0), 0);
        due("summed", x.summed(3, 0), 999);
        due("slack", x.slack(1, 3, 0), 0);
        due("lasts", x.lasts(0), 0);
        due("bare", x.bare(0, 23), 9);
        dueOfAllDays(x);
    }

    private static void dueByMoon(ShadeBeams x) {
        due("light", x.light(3, 0), 2);
        due("shade", x.shade(5, 0, 3) ? 1 : 0, 1);
        due("bears", x.bears(5, 3), 20);
        due("rests", x.rests(1, 0, 0), 1);
        due("falls", x.falls(0), -1);
        due("lies", x.lies(0, 0), 1);
        due("fallen", x.fallen(), 0);
        due("order", x.order(0), -1);
        due("kept", x.kept(0, 2, 3), 0);
        due("carry", x.carry(0, 2, 3, 3), 1);
        due("lit", x.lit(1, 9, 0), 0);
        due("tower", x.tower(9, 1), 0);
        due("worth", x.worth(0), 1);
        due("walk", x.walk(0, 5, 0, 9), 1);
        due("missing", x.missing(9, 0), 0);
        due("right", x.right(), 0);
        due("odds", x.odds(0, 3, 3, 4, 1), 4);
        due("drawn", x.drawn(0, 0), 0);
        due("span", x.span(0, 1, 0, 0, 0), 0);
        due("places", x.places(0, 3, 0), 9);
        due("row", x.row(3, 0), 10);
        due("held", x.held(0), ALL_HOURS);
        due("share", x.share(0), 24 * 9);
        due("summed", x.summed(3, 0), 999 + 9 * 20);
        due("slack", x.slack(1, 3, 0), 19);
        due("lasts", x.lasts(0), 24);
        due("bare", x.bare(0, 23), 0);
        dueOfAllDays(x);
    }

    private static void dueOfAllDays(ShadeBeams x) {
        due("whole", x.whole(0, 399), 200);
        due("next", x.next(2), 3);
        due("puts", x.puts(0, 0, 0), 1);
    }

    // ---------------------------------------------------------------- standing and keeping

    private static void standing() {
        sentence("if both its end's CELLS BEAR what it puts on them", () -> {
            ShadeBeams x = street(SHADY + "beam 3 2 1;load 0 0 19;load 0 1 19;");
            due("just as much", x.held(0), ALL_HOURS);
            x.put(0, 0, 20);
            due("more on the left", x.held(0), 0);
            x.put(0, 0, 19);
            x.put(0, 1, 20);
            due("more on the right", x.held(0), 0);
            x.put(0, 1, 19);
            due("at the last cell", x.places(0, 0, 2), 8);
        });
        sentence("A BEAM STANDS alone (no other BEAMS, no MOVES)", () -> {
            ShadeBeams x = moves(street(SHADY + "post 9 1;beam 3 2 9;beam 3 2 9;beam 4 2 9;beam 1 2 9;cloud 5 5;"), "2 3 8;");
            due("two fall by the others at once", x.fallen() & 3, 3);
            due("yet each stands alone but in the cloud", x.held(0), ALL_HOURS & ~32);
            due("yet each stands alone but in the cloud", x.held(1), ALL_HOURS & ~32);
            due("no moves", x.held(3), ALL_HOURS & ~32);
            due("kept likewise", x.kept(0, 0, 4), 0);
            due("no moves", x.kept(3, 0, 4), 0);
            due("likewise the odds", x.odds(0, 0, 0, 16, 0), 0);
            due("places, as if none had fallen", x.places(0, 6, 0), 9);
        });
        sentence("HELD: HOURS (bits) in which it STANDS alone where it is told", () -> {
            due("none", street("beam 0 2 1;").held(0), 0);
            due("hour 0", street(SHADY + "dusk 1;beam 3 2 1;").held(0), 1);
            due("hour 23", street("wide 10;post 0 9;sun 23 1 10;beam 3 2 1;").held(0), 1 << 23);
            ShadeBeams x = street(TURNING + "beam 1 2 1;");
            due("up to 11", x.held(0), 0xfff);
            x.lay(0, 6);
            due("from 12 on", x.held(0), 0xfff000);
        });
    }

    private static void keeping() {
        sentence("it may be carried as each HOUR begins (as F begins, too, from where it is told)", () -> {
            ShadeBeams x = street(TURNING + "beam 0 2 1;");
            due("from 0 to 1", x.kept(0, 0, 0), 1);
            due("from 0 to 4", x.kept(0, 12, 23), 4);
            due("both", x.kept(0, 11, 12), 4);
            x.lay(0, 3);
            due("none as F begins", x.kept(0, 0, 11), 0);
            due("one as 12 begins", x.kept(0, 0, 23), 1);
            due("one as F begins", x.kept(0, 12, 12), 1);
            x.lay(0, 7);
            due("back", x.kept(0, 23, 23), 1);
            due("back and on", x.kept(0, 11, 12), 5);
        });
        sentence("the fewest CELLS it is carried in all; the first row of left ends (HOUR by HOUR the least CELL)", () -> {
            String turns = "wide 9;post 4 3;sun 0 0 10;sun 1 1 10;sun 2 0 10;sun 3 1 10;sun 4 0 10;sun 5 1 10;beam 0 2 1;";
            ShadeBeams x = street(turns);
            due("four, and then one each", x.kept(0, 0, 5), 8);
            int[] row = {1, 4, 3, 4, 3, 4};
            for (int h = 0; h < row.length; h++) {
                due("hour " + h, x.carry(0, 0, 5, h), row[h]);
            }
            x.lay(0, 3);
            due("one each", x.kept(0, 0, 5), 5);
            due("from the hour 1 on", x.kept(0, 1, 5), 5);
            due("the first", x.carry(0, 0, 5, 0), 3);
            due("the last", x.carry(0, 0, 5, 5), 4);
            ShadeBeams y = street("wide 40;post 0 99;sun 0 1 1;sun 1 1 99;sun 22 1 5;beam 20 20 1;beam 3 2 1;beam 20 2 1;");
            due("all 20 back to 0, where shade is on 1 to 9 alone", y.kept(0, 0, 0), -1);
            due("to 8", y.kept(2, 0, 0), 12);
            due("to 8, and then on by none", y.kept(2, 0, 23), 12);
            for (int h = 0; h < 24; h++) {
                due("hour " + h, y.carry(2, 0, 23, h), 8);
                due("it lies where it lay", y.carry(1, 0, 23, h), 3);
            }
            due("the long one", y.kept(0, 1, 23), 0);
            for (int h = 1; h < 24; h++) {
                due("hour " + h, y.carry(0, 1, 23, h), 20);
            }
            ShadeBeams z = street("wide 40;post 0 1;sun 0 1 10;beam 5 2 1;");
            due("to the first cell", z.kept(0, 0, 23), 5);
            due("to the first cell", z.carry(0, 0, 23, 0), 0);
            due("to the first cell", z.carry(0, 0, 23, 23), 0);
            due("one hour", x.carry(0, 5, 5, 5), 4);
            x.lay(0, 6);
            due("as far as needed", x.carry(0, 0, 0, 0), 3);
        });
        sentence("KEPT: NONE: it can't be", () -> {
            ShadeBeams x = street(SHADY + "cloud 7 7;beam 3 2 1;");
            due("up to the cloud", x.kept(0, 0, 6), 0);
            due("through it", x.kept(0, 6, 8), -1);
            due("into it", x.kept(0, 6, 7), -1);
            due("in it", x.kept(0, 7, 7), -1);
            due("from it on", x.kept(0, 7, 23), -1);
            due("behind it", x.kept(0, 8, 23), 0);
            for (int h = 6; h <= 8; h++) {
                due("carry", x.carry(0, 6, 8, h), -1);
            }
            ShadeBeams y = street("wide 4;post 0 1;post 3 1;beam 0 4 1;");
            due("as long as the street", y.kept(0, 0, 23), 0);
            due("as long as the street", y.carry(0, 0, 23, 23), 0);
        });
    }

    private static void placing() {
        sentence("PLACES: how many, the first, the last (NONE)", () -> {
            ShadeBeams x = street("wide 40;post 0 99;sun 0 1 99;cloud 3 3;beam 5 2 1;beam 0 20 1;");
            due("all", x.places(0, 0, 0), 39);
            due("the first", x.places(0, 0, 1), 0);
            due("the last", x.places(0, 0, 2), 38);
            due("of the long one", x.places(1, 0, 0), 21);
            due("of the long one", x.places(1, 0, 2), 20);
            due("none", x.places(0, 3, 0), 0);
            due("the first of none", x.places(0, 3, 1), -1);
            due("the last of none", x.places(0, 3, 2), -1);
            ShadeBeams y = street("wide 4;post 0 1;post 3 1;beam 0 4 1;");
            due("one alone", y.places(0, 23, 0), 1);
            due("one alone", y.places(0, 23, 1), 0);
            due("one alone", y.places(0, 23, 2), 0);
        });
        sentence("BEST HOUR for a BEAM: that with most PLACES, of these the first", () -> {
            due("none at all", street("beam 0 2 1;").best(0), 0);
            due("all alike", street(SHADY + "beam 0 2 1;").best(0), 0);
            due("the last", street(SHADY + "cloud 0 22;beam 0 2 1;").best(0), 23);
            due("of two", street(SHADY + "cloud 0 4;cloud 6 8;beam 0 2 1;").best(0), 5);
            due("one more", street("wide 10;post 0 9;sun 0 1 5;sun 7 1 6;sun 9 1 5;beam 0 2 1;").best(0), 7);
        });
    }

    // ---------------------------------------------------------------- lamps and posts

    private static void lamps() {
        String cloudy = SHADY + "cloud 5 6;";
        sentence("the fewest LAMPS more of R (3 at most); NONE: not by 3", () -> {
            ShadeBeams x = street(cloudy + "beam 0 2 1;beam 0 4 1;beam 4 3 1;beam 7 2 1;");
            due("no beams: none", x.lit(0, 9, 0), 0);
            due("no beams: none", x.lit(0, 9, 1), 0);
            due("one", x.lit(1, 0, 0), 1);
            due("two", x.lit(3, 0, 0), 2);
            due("two of one beam", x.lit(4, 0, 0), 2);
            due("three", x.lit(5, 0, 0), 3);
            due("four", x.lit(7, 0, 0), -1);
            due("four", x.lit(7, 0, 1), -1);
            due("all by one of 9", x.lit(15, 9, 0), 1);
            due("where", x.lit(15, 9, 1), 0);
            due("all by two of 3", x.lit(15, 3, 0), 2);
        });
        sentence("0 how many (nothing falls)", () -> {
            ShadeBeams x = street(SHADY + "beam 0 2 1;");
            due("none", x.lit(1, 0, 0), 0);
            due("no digits", x.lit(1, 0, 1), 0);
            ShadeBeams y = street(cloudy + "lamp 1 0;beam 0 2 1;");
            due("by the lamp that is told", y.lit(1, 0, 0), 0);
        });
        sentence("1 their CELLS as digits to the base 64 (the first the highest)", () -> {
            ShadeBeams x = street(cloudy + "beam 0 2 1;beam 0 4 1;beam 4 3 1;");
            due("on 1", x.lit(1, 0, 1), 1);
            due("on 1 and 3", x.lit(3, 0, 1), 64 + 3);
            due("on 1, 4 and 6", x.lit(5, 0, 1), 64 * 64 + 4 * 64 + 6);
            ShadeBeams y = street("wide 40;post 0 99;sun 0 1 99;cloud 5 5;beam 37 2 1;beam 38 2 1;");
            due("on 37, 38 and 39", y.lit(3, 0, 1), 37 * 64 * 64 + 38 * 64 + 39);
        });
        sentence("of alike ones the first (CELLS rising, CELL by CELL)", () -> {
            ShadeBeams x = street(cloudy + "beam 0 2 1;beam 4 2 1;beam 8 2 1;");
            due("on 0, it reaches 1", x.lit(1, 1, 1), 0);
            due("on 4, it reaches 5", x.lit(2, 1, 1), 4);
            due("on 8", x.lit(4, 1, 1), 8);
            due("on 5 already", x.lit(4, 4, 1), 5);
            due("on 0 and 4", x.lit(3, 1, 1), 4);
            due("not by 0: on 2 and 7", x.lit(7, 2, 1), 2 * 64 + 7);
        });
        sentence("by all as told, MOVES too", () -> {
            ShadeBeams x = moves(street(cloudy + "post 9 9;beam 2 2 1;"), "5 0 8;7 0 2;");
            due("moved to 8 in the cloud", x.lit(1, 0, 1), 8);
            moves(x, "5 0 8;6 0 2;");
            due("back too early", x.lit(1, 0, 1), 2 * 64 * 64 + 3 * 64 + 8);
            // Where a lamp reaches the shade bears 5 alone: too little for the heavy one, in a cloud and without.
            ShadeBeams y = law(street(cloudy + "beam 0 2 1;beam 5 2 9;"), "20-lamp*15");
            due("the light one", y.lit(1, 0, 1), 1);
            due("the heavy one", y.lit(2, 0, 0), -1);
        });
        sentence("by which told BEAMS (bits) do not FALL", () -> {
            // Beam 0 falls in the cloud whatever is lit at 6; beam 1 needs 6 and 7.
            ShadeBeams x = street(cloudy + "beam 3 2 1;beam 6 2 1;");
            due("beam 1 alone", x.lit(2, 0, 1), 6 * 64 + 7);
            due("beam 0 alone", x.lit(1, 0, 1), 3 * 64 + 4);
            due("both by four", x.lit(3, 0, 0), -1);
            due("nothing stays changed", x.fallen(), 3);
            due("nothing stays changed", x.told(3), 0);
        });
    }

    private static void lampsAtTheEdges() {
        String cloudy = SHADY + "cloud 5 6;";
        sentence("LAMPS more of R (asked again by another R)", () -> {
            ShadeBeams x = street(cloudy + "beam 0 2 1;beam 4 4 1;");
            due("one of 9", x.lit(3, 9, 1), 0);
            due("three of 0", x.lit(3, 0, 1), 64 * 64 + 4 * 64 + 7);
            due("one of 3", x.lit(3, 3, 1), 4);
            due("three of 0", x.lit(3, 0, 0), 3);
            due("three of 0", x.lit(3, 0, 1), 64 * 64 + 4 * 64 + 7);
            x.lay(1, 0);
            due("one of 3", x.lit(3, 3, 1), 0);
            due("two of 0", x.lit(3, 0, 1), 64 + 3);
        });
        sentence("do not FALL on the DAY (in each HOUR of it)", () -> {
            due("in hour 23", street(SHADY + "cloud 23 23;beam 0 2 1;").lit(1, 0, 1), 1);
            ShadeBeams x = law(street("wide 10;post 0 9;post 1 9;sun 0 1 10;dusk 1;beam 4 2 1;"), "lamp*20");
            moves(x, "1 0 0;");
            due("in hour 0", x.lit(1, 0, 1), 4 * 64 + 5);
            due("not in a cloud from hour 0 on", street(SHADY + "cloud 0 0;beam 0 2 1;").lit(1, 9, 0), -1);
            due("not by night", street(SHADY + "dusk 23;beam 0 2 1;").lit(1, 9, 0), -1);
            ShadeBeams y = street("wide 10;post 9 9;sun 0 0 10;cloud 5 5;moon 2 1 5;beam 0 2 1;");
            due("on the first cell", y.lit(1, 0, 1), 1);
            due("on the first cell", y.lit(1, 0, 0), 2);
            due("on the first cell", y.lit(1, 1, 1), 0);
        });
        sentence("MOVES too (as many as there may be)", () -> {
            String there = "5 0 7;5 0 2;5 0 7;5 0 2;5 0 7;5 0 2;5 0 7;5 0 2;5 0 7;5 0 2;5 0 7;5 0 2;5 0 7;5 0 2;";
            ShadeBeams x = moves(street(cloudy + "post 1 9;beam 0 2 1;"), there + "5 0 6;7 0 0;");
            due("16", x.told(6), 16);
            due("on 6 and 7, its right end", x.lit(1, 0, 1), 6 * 64 + 7);
            due("by one of 1", x.lit(1, 1, 1), 6);
            moves(x, "5 0 6;");
            due("it lies there yet", x.lit(1, 0, 1), 6 * 64 + 7);
        });
        sentence("by all as told (a LAMP may fell what stood)", () -> {
            // In a lamp's reach a shade bears 5 alone. Beam 1 puts 9 on 3 and on 4, and is on posts while the cloud is there.
            ShadeBeams x = law(street("wide 10;post 0 9;post 8 1;post 9 1;sun 0 1 10;cloud 5 5;beam 2 4 1;beam 3 2 9;"), "20-lamp*15");
            moves(x, "5 1 8;6 1 3;");
            due("beam 0 alone", x.lit(1, 0, 1), 2 * 64 + 5);
            due("beam 0 alone, by one", x.lit(1, 3, 1), 2);
            due("beam 1 alone", x.lit(2, 3, 0), 0);
            due("both", x.lit(3, 0, 1), 2 * 64 + 5);
            due("both, beside 3 and 4", x.lit(3, 1, 1), 64 + 6);
            due("both, by none so far", x.lit(3, 3, 0), -1);
            // Just as much as it bears is borne: 20 on 1 by a lamp, 20 on 3 and on 4 without one.
            ShadeBeams z = street("wide 10;post 0 9;post 8 1;post 9 1;sun 0 1 10;cloud 5 5;beam 0 2 1;load 0 1 19;beam 3 2 1;load 1 0 19;load 1 1 19;");
            moves(z, "5 1 8;6 1 3;");
            due("on 1", z.lit(1, 0, 1), 1);
            due("on 1", z.lit(3, 0, 1), 1);
            z.put(0, 1, 20);
            due("one more", z.lit(1, 0, 1), -1);
            // What else rests there counts, too: 11 and 9 where lamps leave 15.
            ShadeBeams y = law(street(cloudy + "post 9 1;beam 3 4 5;load 0 0 1;beam 3 2 9;"), "20-lamp*5");
            moves(y, "5 1 0;");
            due("20 are too much by a lamp", y.lit(1, 0, 0), -1);
            due("beam 1 is moved to 1", y.lit(2, 0, 1), 1);
            moves(y, "0 1 0;");
            due("without beam 1 there", y.lit(1, 0, 1), 3 * 64 + 6);
        });
    }

    /** Eight beams that nothing holds up. */
    private static final String EIGHT = "beam 4 2 9;beam 4 2 9;beam 4 2 9;beam 4 2 9;beam 4 2 9;beam 4 2 9;beam 4 2 9;beam 4 2 9;";

    private static void fewestOfAll() {
        sentence("fewest BEAMS FALL (all of them)", () -> {
            ShadeBeams x = street("wide 12;post 0 9;" + EIGHT + "load 3 1 5;load 3 0 2;");
            due("all fall by each tower", x.tower(9, 0), 1);
            due("all fall by each tower", x.tower(9, 1), 8);
            due("all fall without each load", x.lighter(3), 0);
            due("none more without the post", x.worth(0), 0);
        });
        sentence("FALL on the DAY (in its last HOURS, too)", () -> {
            // Beam 0 falls at once, beam 1 as the shade goes in hour 22, beam 2 in hour 23.
            String late = "wide 12;post 0 9;post 11 1;sun 0 1 10;sun 22 1 3;dusk 23;beam 10 2 1;beam 4 2 1;beam 1 2 1;";
            ShadeBeams x = street(late);
            due("0, 1 and 2", x.order(0) * 16 + x.order(1) * 4 + x.order(2), 6);
            due("one holds by a post on 10", x.tower(1, 0), 10);
            due("two fall yet", x.tower(1, 1), 2);
            due("without the post on 11 all three, as before", x.worth(1), 0);
            book(x, "0 0;1 22;2 23;");
            due("on all but 9 and 10", x.missing(1, 0), 8);
            due("the first", x.missing(1, 1), 1);
            // A shade bears 30 less the hour: beam 1 falls in hour 15 by its load on 1, long behind beam 0.
            ShadeBeams y = law(street(SHADY + "beam 4 2 9;load 0 0 99;beam 0 2 1;load 1 0 5;load 1 1 15;"), "30-hour");
            due("15", y.falls(1), 15);
            due("without the load on 1", y.lighter(1), 1);
        });
        sentence("WORTH of a POST (of each its own shadow)", () -> {
            ShadeBeams x = street("wide 12;post 0 3;post 5 3;sun 0 1 10;beam 6 2 1;beam 2 2 1;beam 5 2 1;");
            due("of the first", x.worth(0), 1);
            due("of the second", x.worth(1), 2);
            x.tower(99, 0);
            due("of the first, behind a tower", x.worth(0), 1);
            due("of the second, behind a tower", x.worth(1), 2);
            x.missing(99, 0);
            due("of the second, behind one missing", x.worth(1), 2);
            ShadeBeams y = street("wide 12;post 11 3;post 6 3;sun 0 0 10;beam 4 2 1;beam 8 2 1;beam 5 2 1;");
            y.tower(99, 0);
            due("of the first, behind a tower on 10", y.worth(0), 1);
            due("of the second", y.worth(1), 2);
        });
    }

    private static void towers() {
        sentence("the CELL without a POST by one POST more on which fewest BEAMS FALL, of these the first", () -> {
            ShadeBeams x = street("wide 8;post 0 5;beam 0 4 1;beam 3 4 1;");
            due("on 3: one of two", x.tower(9, 0), 3);
            due("one of two", x.tower(9, 1), 1);
            due("no beams", street("wide 8;post 0 5;").tower(9, 0), 1);
            due("no beams", street("wide 8;post 0 5;").tower(9, 1), 0);
            due("a new object", new ShadeBeams().tower(1, 0), 0);
            due("the last cell", street("wide 8;post 0 5;beam 0 8 1;").tower(9, 0), 7);
            ShadeBeams y = street("wide 4;post 0 1;post 1 1;post 3 1;beam 1 2 1;beam 0 2 1;");
            due("the only one", y.tower(1, 0), 2);
            due("none falls", y.tower(1, 1), 0);
            due("nothing stays changed", y.fallen(), 1);
        });
        sentence("TOWER of H (1 to 99)", () -> {
            // The beam lies from the post on 0 to 5: a post of 1 throws its shade there from 4, one of 2 from 3.
            ShadeBeams x = street("wide 8;post 0 1;sun 0 1 10;beam 0 6 1;");
            due("1 high", x.tower(1, 0), 4);
            due("2 high", x.tower(2, 0), 3);
            due("99 high", x.tower(99, 0), 1);
            due("it stands", x.tower(99, 1), 0);
        });
        sentence("NONE: there is a POST on each CELL, or there are 10", () -> {
            ShadeBeams x = street("wide 4;post 0 1;post 1 1;post 2 1;post 3 1;beam 0 2 1;");
            due("on each", x.tower(9, 0), -1);
            due("on each", x.tower(9, 1), -1);
            String nine = "post 0 1;post 1 1;post 2 1;post 3 1;post 4 1;post 5 1;post 6 1;post 7 1;post 8 1;";
            due("nine", street(nine).tower(9, 0), 9);
            due("ten", street(nine + "post 9 1;").tower(9, 0), -1);
            due("ten", street(nine + "post 9 1;").tower(9, 1), -1);
            due("nine of nine", street("wide 9;" + nine).tower(9, 0), -1);
            due("ten of ten", street("wide 10;" + nine + "post 9 1;").tower(9, 1), -1);
        });
        sentence("WORTH: how many BEAMS more FALL without it (below 0: fewer)", () -> {
            ShadeBeams x = street("wide 9;post 0 5;post 3 5;post 8 1;beam 0 4 1;beam 3 2 1;");
            due("one more", x.worth(0), 1);
            due("one more", x.worth(1), 1);
            due("none", x.worth(2), 0);
            ShadeBeams y = law(street("wide 9;post 0 9;post 3 50;sun 0 1 10;beam 4 2 1;beam 6 2 1;"), "10-tall");
            due("two fewer", y.worth(1), -2);
            due("none", y.worth(0), 0);
            ShadeBeams z = street("wide 9;post 0 9;sun 0 1 10;beam 1 2 1;beam 3 2 1;beam 5 2 1;beam 7 2 1;beam 1 2 1;beam 3 2 1;beam 5 2 1;beam 7 2 1;");
            due("all", z.worth(0), 8);
            due("nothing stays changed", z.fallen(), 0);
        });
        sentence("SHARE of a POST: only its shadow lies (each CELL in each HOUR once)", () -> {
            ShadeBeams x = street("wide 6;post 0 2;post 1 3;post 5 9;sun 22 1 10;");
            due("1 alone, 2 shared; hours 22 and 23", x.share(0), 2);
            due("3 and 4, 2 shared", x.share(1), 4);
            due("none", x.share(2), 0);
            due("by night none", street("wide 6;post 0 2;").share(0), 0);
        });
    }

    // ---------------------------------------------------------------- walks and books

    private static void walks() {
        // 2 to 5 and 9, 10; from 5 on 2 to 11; from 12 on 2 and 9 alone.
        ShadeBeams x = street("wide 12;post 2 3;post 9 1;sun 0 1 10;sun 5 1 30;dusk 12;");
        sentence("SOONEST; NONE: never (or nothing BEARS him where he begins)", () -> {
            due("there he is", x.walk(3, 3, 4, 1), 4);
            due("in hour 23", x.walk(9, 9, 23, 9), 23);
            due("nothing bears him there", x.walk(0, 0, 4, 9), -1);
            due("nothing bears him there", x.walk(6, 6, 4, 1), -1);
            due("nor later", x.walk(6, 5, 4, 1), -1);
            due("nothing where he goes", x.walk(3, 0, 0, 9), -1);
        });
        sentence("in the next one he is on one up to G CELLS off", () -> {
            due("4 off by 4", x.walk(5, 9, 0, 4), 1);
            due("4 off by 3, as there is shade between", x.walk(5, 9, 0, 3), 6);
            due("to the left", x.walk(9, 5, 0, 4), 1);
            due("step by step", x.walk(2, 5, 0, 1), 3);
            due("9 off", x.walk(2, 11, 5, 9), 6);
            due("9 off by 8", x.walk(2, 11, 5, 8), 7);
        });
        sentence("over whatever lies between", () -> due("over 3 to 8", x.walk(2, 9, 22, 7), 23));
        sentence("on that DAY", () -> {
            due("22 and 23", x.walk(2, 9, 22, 7), 23);
            due("not behind 23", x.walk(2, 9, 23, 7), -1);
            due("not in time", x.walk(2, 9, 22, 6), -1);
            due("too late to stay", x.walk(5, 9, 11, 3), -1);
        });
        sentence("CELLS that BEAR anything", () -> {
            ShadeBeams y = law(street("wide 6;post 0 9;sun 0 1 10;"), "hour-3");
            due("from hour 4 on 1", y.walk(0, 5, 0, 5), 4);
            due("1 is enough", y.row(4, 0), 6);
            due("0 is not", y.row(3, 0), 1);
        });
    }

    private static void rows() {
        sentence("ROW: of alike ones the first: how many, its first CELL (NONE: 0)", () -> {
            ShadeBeams x = street("wide 12;post 2 3;post 9 1;sun 0 1 10;sun 5 1 30;sun 7 0 10;dusk 12;");
            due("four", x.row(0, 0), 4);
            due("from 2 on", x.row(0, 1), 2);
            due("up to the last cell", x.row(5, 0), 10);
            due("from 2 on", x.row(5, 1), 2);
            due("to the left, from the first cell", x.row(7, 1), 0);
            due("0 to 2", x.row(7, 0), 3);
            due("of two alike ones", x.row(12, 1), 2);
            due("one", x.row(12, 0), 1);
            due("none", new ShadeBeams().row(12, 0), 0);
            due("none", new ShadeBeams().row(12, 1), -1);
            ShadeBeams y = street("wide 40;post 39 99;sun 0 0 99;");
            due("all of 40", y.row(0, 0), 40);
            due("all of 40", y.row(0, 1), 0);
        });
        sentence("SUMMED: what all CELLS BEAR together", () -> {
            due("nothing", new ShadeBeams().summed(0, 0), 0);
            due("the most", law(street("wide 40;post 0 99;sun 0 1 99;"), "999").summed(23, 0), 40 * 999);
        });
        sentence("CROSSED: CELLS in an HOUR on which two shadows or more lie", () -> {
            ShadeBeams x = street("wide 9;post 0 3;post 1 3;post 2 3;post 3 3;sun 0 1 10;");
            // 1 to 3, 2 to 4, 3 to 5, 4 to 6: two and more on 2 to 5, posts or not.
            due("2 to 5", x.summed(0, 1), 4);
            due("one shadow", street("wide 9;post 0 3;sun 0 1 10;").summed(0, 1), 0);
            due("none", new ShadeBeams().summed(0, 1), 0);
        });
        sentence("BARE in HOURS F to T: how many CELLS BEAR nothing in any of them", () -> {
            ShadeBeams x = street("wide 10;post 4 3;sun 3 0 10;sun 4 1 10;dusk 5;");
            due("all but the post", x.bare(0, 2), 9);
            due("hour 3: 1 to 4", x.bare(3, 3), 6);
            due("hour 4: 4 to 7", x.bare(4, 4), 6);
            due("both", x.bare(3, 4), 3);
            due("in one of them is not bare", x.bare(2, 5), 3);
            due("all hours", x.bare(0, 23), 3);
            due("the last hour", x.bare(23, 23), 9);
            due("a new object", new ShadeBeams().bare(0, 23), 20);
        });
    }

    private static void books() {
        sentence("How many lines of the BOOK are so, from the first on (on the DAY)", () -> {
            ShadeBeams x = street("wide 8;post 0 9;moon 2 1 10;sun 0 1 10;dusk 7;beam 0 2 1;beam 6 2 1;");
            due("no lines", x.right(), 0);
            book(x, "0 7;1 7;0 7;");
            due("all", x.right(), 3);
            x.day(1);
            due("on another day none falls", x.right(), 0);
            book(x, "0 24;1 23;0 24;");
            due("from the first on", x.right(), 1);
            book(x, "1 24;0 24;0 24;0 24;0 24;0 24;0 24;1 24;");
            due("eight", x.right(), 8);
            book(x, "1 24;0 24;0 24;0 24;0 24;0 24;0 24;1 0;");
            due("seven", x.right(), 7);
        });
        sentence("one POST more (H told) on a CELL without one, by which the BOOK is right in all lines", () -> {
            ShadeBeams x = street("wide 8;post 0 5;beam 0 4 1;beam 5 3 1;");
            due("an empty book", x.missing(1, 0), 7);
            due("an empty book", x.missing(1, 1), 1);
            book(x, "0 24;");
            due("on 3", x.missing(1, 0), 1);
            due("on 3", x.missing(1, 1), 3);
            book(x, "0 24;1 24;");
            due("not all lines", x.missing(99, 0), 0);
            due("not all lines", x.missing(99, 1), -1);
            book(x, "0 0;");
            due("all but 3", x.missing(1, 0), 6);
            due("a post on each cell", street("wide 4;post 0 1;post 1 1;post 2 1;post 3 1;").missing(9, 0), 0);
            due("a post on each cell", street("wide 4;post 0 1;post 1 1;post 2 1;post 3 1;").missing(9, 1), -1);
            due("a new object", new ShadeBeams().missing(9, 0), 20);
            due("the book stays", x.told(7), 1);
            due("the posts stay", x.told(1), 1);
        });
        sentence("on a CELL without one (ten POSTS told)", () -> {
            ShadeBeams x = street("post 0 1;post 1 1;post 2 1;post 3 1;post 4 1;post 5 1;post 6 1;post 7 1;post 8 1;post 9 1;beam 0 12 1;");
            due("ten cells are free", x.missing(9, 0), 10);
            book(x, "0 24;");
            due("by 11 alone", x.missing(9, 0), 1);
            due("by 11 alone", x.missing(9, 1), 11);
        });
        sentence("MISSING by H (1 to 99)", () -> {
            ShadeBeams x = book(street("wide 9;post 0 1;sun 0 1 10;beam 0 6 1;"), "0 24;");
            due("1 high: 4 and 5", x.missing(1, 0), 2);
            due("1 high: 4 and 5", x.missing(1, 1), 4);
            due("99 high: 1 to 5", x.missing(99, 0), 5);
            due("99 high: 1 to 5", x.missing(99, 1), 1);
        });
    }

    // ---------------------------------------------------------------- days, odds, seeds

    private static void days() {
        sentence("WHOLE DAYS: on which no BEAM FALLS: how many of DAYS F to T", () -> {
            ShadeBeams x = street("wide 8;post 0 9;moon 60 59 10;beam 0 3 1;");
            due("all", x.whole(0, 399), 6);
            due("59", x.whole(59, 59), 1);
            due("58", x.whole(58, 58), 0);
            due("60 to 118", x.whole(60, 118), 0);
            due("60 to 119", x.whole(60, 119), 1);
            due("from 359 on", x.whole(359, 399), 1);
            due("from 360 on", x.whole(360, 399), 0);
            due("no beams", new ShadeBeams().whole(0, 399), 400);
            due("one day", new ShadeBeams().whole(399, 399), 1);
            due("two moons", street("wide 8;post 0 9;moon 3 0 10;moon 2 0 1;beam 0 3 1;").whole(0, 5), 2);
            due("the first of several", street("wide 8;post 0 9;moon 3 0 1;moon 2 0 10;beam 0 3 1;").whole(0, 5), 2);
            due("the third", street("wide 8;post 0 9;moon 60 59 1;moon 60 58 1;moon 2 1 10;beam 0 3 1;").whole(0, 399), 200 - 6);
        });
        sentence("The first WHOLE DAY from one on; NONE: not to 399", () -> {
            ShadeBeams x = street("wide 8;post 0 9;moon 60 39 10;beam 0 3 1;");
            due("0", x.next(0), 39);
            due("39", x.next(39), 39);
            due("40", x.next(40), 99);
            due("399", x.next(399), 399);
            due("340", x.next(340), 399);
            due("not to 399", street("wide 8;post 0 9;moon 60 38 10;beam 0 3 1;").next(399), -1);
            due("never", street("beam 0 2 1;").next(0), -1);
            due("nor as 400 is one", street("wide 8;post 0 9;moon 60 40 10;beam 0 3 1;").next(341), -1);
            due("nor as 400 is one", street("wide 8;post 0 9;moon 60 40 10;beam 0 3 1;").whole(341, 399), 0);
            due("a new object", new ShadeBeams().next(399), 399);
            due("the day stays", x.told(8), 0);
        });
        sentence("On DAYS that leave R by P", () -> {
            ShadeBeams x = street("wide 8;moon 60 39 10;");
            int lit = 0;
            for (int d = 0; d < 400; d++) {
                x.day(d);
                lit += x.light(0, 0) == 2 ? 1 : 0;
                due("day " + d, x.light(23, 1), d % 60 == 39 ? 10 : 0);
            }
            due("seven days", lit, 7);
        });
    }

    private static void dueOdds(ShadeBeams x, String call, long above, long below, long wantAbove, long wantBelow) {
        due(call, above, wantAbove);
        due(call + ", below", below, wantBelow);
    }

    private static void odds() {
        ShadeBeams x = street("wide 10;post 0 9;sun 0 1 10;dusk 20;cloud 5 6;lamp 1 0;lamp 4 0;beam 0 2 1;beam 2 2 1;beam 1 4 1;");
        sentence("0, if it does not stand in one of these", () -> {
            dueOdds(x, "19 and 20", x.odds(1, 19, 20, 4, 0), x.odds(1, 19, 20, 4, 1), 0, 1);
            dueOdds(x, "20", x.odds(1, 20, 20, 0, 0), x.odds(1, 20, 20, 0, 1), 0, 1);
            dueOdds(x, "19", x.odds(1, 19, 19, 4, 0), x.odds(1, 19, 19, 4, 1), 3, 4);
        });
        sentence("without CLOUDS as told", () -> {
            dueOdds(x, "in the cloud", x.odds(1, 5, 5, 4, 0), x.odds(1, 5, 5, 4, 1), 3, 4);
            dueOdds(x, "behind it", x.odds(1, 7, 7, 4, 0), x.odds(1, 7, 7, 4, 1), 3, 4);
        });
        sentence("in which it would not stand, were there a CLOUD in just this HOUR", () -> {
            dueOdds(x, "a lamp holds it", x.odds(2, 4, 7, 5, 0), x.odds(2, 4, 7, 5, 1), 1, 1);
            dueOdds(x, "a lamp and a post", x.odds(0, 1, 12, 5, 0), x.odds(0, 1, 12, 5, 1), 1, 1);
            dueOdds(x, "in hour 0 no lamp holds it", x.odds(0, 0, 11, 5, 0), x.odds(0, 0, 11, 5, 1), 11, 16);
            dueOdds(x, "on posts", street("wide 4;post 0 1;post 3 1;beam 0 4 1;").odds(0, 0, 11, 16, 0), 1, 1, 1);
        });
        sentence("in HOURS F to T (12 at most)", () -> {
            dueOdds(x, "12 by 15 of 16", x.odds(1, 0, 11, 1, 0), x.odds(1, 0, 11, 1, 1), 129746337890625L, 1L << 48);
            dueOdds(x, "8 to 19", x.odds(1, 8, 19, 15, 0), x.odds(1, 8, 19, 15, 1), 1, 1L << 48);
            ShadeBeams y = street(SHADY + "beam 2 2 1;");
            dueOdds(y, "12 to 23", y.odds(0, 12, 23, 8, 0), y.odds(0, 12, 23, 8, 1), 1, 4096);
        });
        sentence("16 less Q of 16; Q (0 to 16)", () -> {
            dueOdds(x, "0", x.odds(1, 4, 7, 0, 0), x.odds(1, 4, 7, 0, 1), 1, 1);
            dueOdds(x, "1", x.odds(1, 4, 4, 1, 0), x.odds(1, 4, 4, 1, 1), 15, 16);
            dueOdds(x, "8", x.odds(1, 4, 6, 8, 0), x.odds(1, 4, 6, 8, 1), 1, 8);
            dueOdds(x, "15", x.odds(1, 4, 4, 15, 0), x.odds(1, 4, 4, 15, 1), 1, 16);
            dueOdds(x, "16", x.odds(1, 4, 7, 16, 0), x.odds(1, 4, 7, 16, 1), 0, 1);
            dueOdds(x, "12 in least terms", x.odds(1, 4, 6, 12, 0), x.odds(1, 4, 6, 12, 1), 1, 64);
        });
        sentence("ODDS of a BEAM, alone, where it is told", () -> {
            ShadeBeams y = moves(street(SHADY + "post 9 1;beam 8 2 9;beam 8 2 9;beam 8 2 9;"), "3 2 0;");
            due("it falls by the others", y.fallen(), 1);
            dueOdds(y, "alone", y.odds(0, 3, 3, 4, 0), y.odds(0, 3, 3, 4, 1), 3, 4);
            dueOdds(y, "no moves", y.odds(2, 3, 3, 4, 0), y.odds(2, 3, 3, 4, 1), 3, 4);
        });
    }

    /** What bits 16 to 19 of the seed are in hours 0 to 23. */
    private static final int[][] DRAWN = {
        {0, 0, 12, 4, 5, 10, 15, 13, 13, 10, 10, 5, 12, 11, 14, 15, 3, 0, 9, 12, 13, 0, 15, 9, 15},
        {5, 15, 9, 8, 5, 1, 12, 8, 3, 12, 8, 13, 12, 13, 5, 9, 9, 6, 9, 4, 2, 15, 13, 10, 9},
        {-1, 9, 9, 6, 14, 9, 2, 8, 15, 0, 14, 13, 9, 11, 0, 13, 14, 15, 2, 7, 13, 9, 12, 2, 6},
        {Integer.MAX_VALUE, 9, 9, 6, 14, 9, 2, 8, 15, 0, 14, 13, 9, 11, 0, 13, 14, 15, 2, 7, 13, 9, 12, 2, 6}};

    /** The beam lies on posts but in one hour, when it needs the shade. */
    private static ShadeBeams shadeIn(int hour) {
        ShadeBeams x = street("post 0 9;post 1 1;sun 0 1 10;beam 0 2 1;");
        return moves(x, hour < 23 ? hour + " 0 4;" + (hour + 1) + " 0 0;" : "23 0 4;");
    }

    private static void seeds() {
        sentence("for HOURS 0 to 23 the SEED becomes itself times .. (it wraps); its bits 16 to 19 below Q", () -> {
            for (int h = 0; h < 24; h++) {
                ShadeBeams x = shadeIn(h);
                for (int[] row : DRAWN) {
                    due("seed " + row[0] + ", hour " + h + ", Q as many", x.drawn(row[0], row[1 + h]), 0);
                    due("seed " + row[0] + ", hour " + h + ", Q one more", x.drawn(row[0], row[1 + h] + 1), 1);
                }
            }
        });
        sentence("below Q (0 to 16)", () -> {
            ShadeBeams x = street(SHADY + "beam 1 2 1;beam 0 2 1;");
            due("0: no cloud", x.drawn(0, 0), 0);
            due("16: all hours", x.drawn(12345, 16), 3);
            due("16: all hours", x.span(7, 40, 16, 0, 0), 2);
            due("0: no cloud", x.span(7, 40, 0, 1, 0), 0);
        });
        sentence("a CLOUD in it (as well as those told)", () -> {
            ShadeBeams x = street("post 0 9;post 1 1;sun 0 1 10;beam 0 2 1;beam 0 2 1;cloud 5 5;");
            moves(x, "5 0 4;6 0 0;16 1 4;17 1 0;");
            due("the told one", x.drawn(0, 0), 1);
            due("and the drawn one", x.drawn(0, 1), 3);
            due("of another seed", x.drawn(5, 6), 1);
            due("nothing stays changed", x.fallen(), 1);
            // A lamp keeps what lay ahead of the told cloud, unless a drawn one reaches back to hour 0.
            ShadeBeams y = street(SHADY + "lamp 4 9;cloud 1 23;beam 3 2 1;");
            due("kept from hour 0", y.drawn(0, 0), 0);
            due("a cloud in hour 0, too", y.drawn(0, 1), 1);
        });
        sentence("Of so many SEEDS (1 to 40; seed, seed and 1, ..)", () -> {
            ShadeBeams x = moves(street("post 0 9;post 1 1;sun 0 1 10;beam 4 2 1;beam 0 2 1;"), "1 0 0;1 1 4;2 1 0;");
            due("one: 5 has 15 and 9", x.span(5, 1, 9, 0, 0), 0);
            due("one: 5 has 15 and 9", x.span(5, 1, 10, 0, 0), 1);
            due("one: 5 has 15 and 9", x.span(5, 1, 16, 0, 0), 2);
            due("one: 6 has 6 and 11, 5 had none below 7", x.span(6, 1, 7, 0, 0), 1);
            due("one: 5 has 15, 4 had 9", x.span(5, 1, 10, 2, 0), 0);
            due("how many by hour 0", x.span(0, 40, 8, 2, 0), 20);
            due("how many by hour 1", x.span(0, 40, 8, 2, 1), 20);
            due("of 39 but 19, the last is one", x.span(0, 39, 8, 2, 0), 19);
            due("the 40th is the first with both", x.span(55, 40, 1, 1, 0), 2);
            due("none of 39", x.span(55, 39, 1, 1, 0), 1);
            due("the 40th is the first with none", x.span(42, 40, 14, 0, 0), 0);
            due("none of 39", x.span(42, 39, 14, 0, 0), 1);
            // The greatest seed has 9 in hour 0, the one behind it, which is the least, 0.
            due("seeds wrap", x.span(Integer.MAX_VALUE, 2, 1, 2, 0), 1);
            due("seeds wrap", x.span(Integer.MAX_VALUE, 1, 1, 2, 0), 0);
        });
    }

    // ---------------------------------------------------------------- loads

    private static void loads() {
        sentence("LIGHTER: of the CELLS of a BEAM that have a load; NONE: it has no load", () -> {
            ShadeBeams x = street(SHADY + "beam 0 4 1;load 0 2 0;beam 3 2 1;load 1 1 5;");
            due("a load of 0 is none", x.lighter(0), -1);
            due("the last cell", x.lighter(1), 1);
            x.put(0, 0, 1);
            due("the first cell", x.lighter(0), 0);
            x.put(0, 0, 0);
            due("none again", x.lighter(0), -1);
            x.put(0, 3, 99);
            due("the last cell", x.lighter(0), 3);
        });
        sentence("the one without whose load fewest BEAMS FALL on the DAY, of these the first", () -> {
            ShadeBeams x = street(SHADY + "beam 0 4 1;load 0 1 3;load 0 2 3;load 0 3 30;");
            due("only without that on 3", x.lighter(0), 3);
            x.put(0, 3, 10);
            due("it stands anyway", x.lighter(0), 1);
            // The right end bears 20: 1 and a half, half of the load on 1, the load on 2.
            ShadeBeams v = street(SHADY + "beam 0 3 1;load 0 0 1;load 0 1 1;load 0 2 18;");
            due("just as much: it stands anyway", v.lighter(0), 0);
            v.put(0, 1, 2);
            due("half more: without the load on 1", v.lighter(0), 1);
            v.put(0, 2, 19);
            due("half too much without it: without the load on 2", v.lighter(0), 2);
            // Beam 0 puts 2 on cell 4, of them 1 by its load there; beam 1 puts 19, then 20.
            ShadeBeams w = street(SHADY + "beam 3 2 1;load 0 0 1;load 0 1 1;beam 4 2 9;load 1 0 10;");
            due("without the load there just 20", w.lighter(0), 1);
            w.put(1, 0, 11);
            due("without it one too many", w.lighter(0), 0);
            x.put(0, 3, 99);
            x.put(0, 2, 99);
            due("it falls anyway", x.lighter(0), 1);
            due("nothing stays changed", x.beam(0, 3), 4 + 3 + 99 + 99);
            due("nothing stays changed", x.falls(0), 0);
            // 20 and 5 rest on 3, 20 and 1 on 6: without either load of beam 0 the other end is yet too heavy.
            ShadeBeams y = street(SHADY + "beam 3 4 1;load 0 0 18;load 0 3 18;beam 3 2 1;load 1 0 4;beam 6 2 1;");
            due("on each end one shares", y.fallen(), 1);
            due("neither helps alone", y.lighter(0), 0);
        });
        sentence("HEAVIEST: the BEAM that puts most on one end, of these the first; NONE: there are no BEAMS", () -> {
            due("none", new ShadeBeams().heaviest(), -1);
            due("none", street(SHADY).heaviest(), -1);
            due("alike", street("beam 0 2 5;beam 3 2 5;").heaviest(), 0);
            due("a right end", street("beam 0 2 5;beam 0 3 1;load 1 2 4;beam 3 2 1;load 2 1 5;").heaviest(), 2);
            due("half more", street("beam 0 2 5;beam 0 3 1;load 1 0 4;").heaviest(), 1);
            due("half less", street("beam 0 2 6;beam 0 3 1;load 1 0 4;").heaviest(), 0);
            due("ends alone, not all", street("beam 0 20 1;beam 0 2 9;load 1 0 3;").heaviest(), 1);
            due("the eighth", street("beam 0 2 1;beam 0 2 1;beam 0 2 1;beam 0 2 1;beam 0 2 1;beam 0 2 1;beam 0 2 1;beam 0 2 2;").heaviest(), 7);
        });
    }

    public static void main(String[] args) {
        theDayThatIs();
        standing();
        keeping();
        placing();
        lamps();
        lampsAtTheEdges();
        fewestOfAll();
        towers();
        walks();
        rows();
        books();
        days();
        odds();
        seeds();
        loads();
        System.out.println("AskBoundaryTest: " + sentences + " sentences, " + asked + " answers, " + wrong + " not as due");
        if (wrong != 0) {
            System.exit(1);
        }
    }
}
