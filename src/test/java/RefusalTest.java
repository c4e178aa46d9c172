import java.util.NoSuchElementException;
import java.util.Random;

/**
 * Every call with arguments from the edges and far beyond them: it throws just what the document says,
 * in the document's order (cells, then posts and beams, then all else), and status counts it.
 */
public final class RefusalTest {
    private static final int FINE = 0;
    private static final int INDEX = 1;
    private static final int ELEMENT = 2;
    private static final int ARGUMENT = 3;

    private static int wrong = 0;
    private static long asked = 0;

    private static final int[] EDGES = {Integer.MIN_VALUE, Integer.MIN_VALUE + 1, -1000, -2, -1, 0, 1, 2, 3, 4, 5, 7, 8, 9, 10, 11, 12, 15, 16, 17, 19,
        20, 23, 24, 25, 39, 40, 41, 63, 64, 98, 99, 100, 255, 256, 398, 399, 400, 401, 600, 601, 65536, Integer.MAX_VALUE - 1, Integer.MAX_VALUE};

    private static final String[] STREETS = {
        "",
        "wide 4;post 0 1;post 1 2;post 2 3;post 3 4;beam 0 4 1;",
        "wide 40;post 0 99;sun 0 1 99;dusk 20;moon 2 1 30;cloud 5 9;lamp 39 9;beam 0 20 9;beam 20 20 1;load 1 19 99;",
        "post 3 10;post 7 5;sun 6 0 10;sun 12 1 10;dusk 19;cloud 10 11;lamp 5 3;beam 3 5 1;beam 0 2 1;beam 4 4 2;load 2 3 40;"
            + "beam 7 6 1;beam 8 3 1;beam 1 9 3;beam 3 3 3;beam 18 2 9;",
        "wide 10;post 0 9;post 1 9;post 2 9;post 3 9;post 4 9;post 5 9;post 6 9;post 7 9;post 8 9;post 9 9;beam 0 10 9;",
        "wide 11;post 0 9;post 1 9;post 2 9;post 3 9;post 4 9;post 5 9;post 6 9;post 7 9;post 8 9;post 9 9;beam 0 11 9;sun 0 0 10;sun 0 1 10;",
    };

    private final ShadeBeams x = new ShadeBeams();
    private final Random r;
    private int cells;
    private int posts;
    private int beams;
    private final int[] lengths = new int[8];
    private final int[] refused = new int[4];

    private RefusalTest(int seed) {
        r = new Random(seed);
    }

    private int any() {
        return r.nextInt(3) > 0 ? r.nextInt(26) - 1 : EDGES[r.nextInt(EDGES.length)];
    }

    private static boolean in(int v, int low, int high) {
        return v >= low && v <= high;
    }

    private int cell(int c) {
        return in(c, 0, cells - 1) ? FINE : INDEX;
    }

    private int post(int p) {
        return in(p, 0, posts - 1) ? FINE : ELEMENT;
    }

    private int beam(int b) {
        return in(b, 0, beams - 1) ? FINE : ELEMENT;
    }

    private static int fits(boolean fine) {
        return fine ? FINE : ARGUMENT;
    }

    private static boolean hour(int h) {
        return in(h, 0, 23);
    }

    private static int first(int... kinds) {
        int least = FINE;
        for (int k : kinds) {
            if (k != FINE && (least == FINE || k < least)) {
                least = k;
            }
        }
        return least;
    }

    private static final int CALLS = 47;

    /** What the call is due to throw. */
    private int due(int call, int a, int b, int c, int d, int e) {
        switch (call) {
            case 0: return fits(in(a, 0, 8));
            case 1: return first(post(a), fits(in(b, 0, 1)));
            case 2: return first(beam(a), fits(in(b, 0, 3)));
            case 3: return fits(hour(a) && in(b, 0, 2));
            case 4: return first(cell(a), post(b), fits(hour(c)));
            case 5: return first(cell(a), fits(hour(b)));
            case 6: return fits(in(a, 0, 10) && in(b, 0, 99) && hour(c) && in(d, 0, 1));
            case 7: return first(cell(a), fits(hour(b) && in(c, 0, 1)));
            case 8: return first(beam(a), fits(in(b, 0, 1) && in(c, 0, 1)));
            case 9: return beam(a);
            case 10: return first(beam(a), fits(hour(b)));
            case 11: return fits(in(a, 0, 399));
            case 12: return first(beam(a), fits(hour(b) && hour(c) && b <= c));
            case 13: return first(beam(a), fits(hour(b) && hour(c) && b <= c && in(d, b, c)));
            case 14: return fits(a >= 0 && a < 1 << beams && in(b, 0, 9) && in(c, 0, 1));
            case 15: return fits(in(a, 1, 99) && in(b, 0, 1));
            case 16: return post(a);
            case 17: return first(cell(a), cell(b), fits(hour(c) && in(d, 1, 9)));
            case 18: return fits(in(a, 1, 99) && in(b, 0, 1));
            case 19: return fits(in(a, 0, 399) && in(b, 0, 399) && a <= b);
            case 20: return fits(in(a, 0, 399));
            case 21: return first(beam(a), fits(hour(b) && hour(c) && b <= c && c - b < 12 && in(d, 0, 16) && in(e, 0, 1)));
            case 22: return fits(in(b, 0, 16));
            case 23: return fits(in(b, 1, 40) && in(c, 0, 16) && in(d, 0, 2) && beam(e) == FINE);
            case 24: return first(beam(a), fits(hour(b) && in(c, 0, 2)));
            case 25: return fits(hour(a) && in(b, 0, 1));
            case 26: return beam(a);
            case 27: return beam(a);
            case 28: return post(a);
            case 29: return fits(hour(a) && in(b, 0, 1));
            case 30: return first(cell(a), fits(hour(b) && in(c, 0, 1)));
            case 31: return beam(a);
            case 32: return beam(a);
            case 33: return fits(hour(a) && hour(b) && a <= b);
            case 34: return first(post(a), fits(in(b, 1, 99)));
            case 35: return first(beam(a), fits(beam(a) == FINE && in(b, 0, cells - lengths[a])));
            case 36: return first(beam(a), fits(beam(a) == FINE && in(b, 0, lengths[a] - 1) && in(c, 0, 99)));
            case 37: return fits(in(a, 0, x.count(1)));
            case 38: return fits(in(a, 0, Math.min(150, x.count(1))));
            case 39: return fits(in(a, 0, Math.min(150, x.count(1))));
            case 40: return fits(in(a, 0, Math.min(100, x.count(1))));
            default: return FINE;
        }
    }

    private void make(int call, int a, int b, int c, int d, int e) {
        switch (call) {
            case 0: x.told(a); break;
            case 1: x.post(a, b); break;
            case 2: x.beam(a, b); break;
            case 3: x.light(a, b); break;
            case 4: x.shade(a, b, c); break;
            case 5: x.bears(a, b); break;
            case 6: x.bearing(a, b, c, d); break;
            case 7: x.rests(a, b, c); break;
            case 8: x.puts(a, b, c); break;
            case 9: x.falls(a); break;
            case 10: x.lies(a, b); break;
            case 11: x.day(a); break;
            case 12: x.kept(a, b, c); break;
            case 13: x.carry(a, b, c, d); break;
            case 14: x.lit(a, b, c); break;
            case 15: x.tower(a, b); break;
            case 16: x.worth(a); break;
            case 17: x.walk(a, b, c, d); break;
            case 18: x.missing(a, b); break;
            case 19: x.whole(a, b); break;
            case 20: x.next(a); break;
            case 21: x.odds(a, b, c, d, e); break;
            case 22: x.drawn(a, b); break;
            case 23: x.span(a, b, c, d, e); break;
            case 24: x.places(a, b, c); break;
            case 25: x.row(a, b); break;
            case 26: x.best(a); break;
            case 27: x.held(a); break;
            case 28: x.share(a); break;
            case 29: x.summed(a, b); break;
            case 30: x.slack(a, b, c); break;
            case 31: x.lighter(a); break;
            case 32: x.lasts(a); break;
            case 33: x.bare(a, b); break;
            case 34: x.build(a, b); break;
            case 35: x.lay(a, b); break;
            case 36: x.put(a, b, c); break;
            case 37: x.street(a); break;
            case 38: x.law(a); break;
            case 39: x.moves(a); break;
            case 40: x.book(a); break;
            case 41: x.feed(a, b, c, d, e); break;
            case 42: x.order(a); break;
            case 43: x.undo(); break;
            case 44: x.image(); break;
            case 45: x.restore(); break;
            default: x.heaviest(); x.right(); x.fallen(); x.fault(); break;
        }
    }

    private static int kindOf(RuntimeException e) {
        if (e.getClass() == IndexOutOfBoundsException.class) {
            return INDEX;
        }
        if (e.getClass() == NoSuchElementException.class) {
            return ELEMENT;
        }
        return e.getClass() == IllegalArgumentException.class ? ARGUMENT : 99;
    }

    private void tryCall(int call) {
        int a = any();
        int b = any();
        int c = any();
        int d = any();
        int e = any();
        int want = due(call, a, b, c, d, e);
        int got = FINE;
        try {
            make(call, a, b, c, d, e);
        } catch (RuntimeException thrown) {
            got = kindOf(thrown);
        }
        asked++;
        if (got != want) {
            wrong++;
            System.out.println("call " + call + " (" + a + ", " + b + ", " + c + ", " + d + ", " + e + ") threw " + got + ", due is " + want
                + " (0 nothing, 1 IndexOutOfBounds, 2 NoSuchElement, 3 IllegalArgument)");
        }
        if (want != FINE) {
            refused[want]++;
        }
        look();
    }

    /** A street may have been told anew. */
    private void look() {
        cells = x.told(0);
        posts = x.told(1);
        beams = x.told(2);
        for (int i = 0; i < beams; i++) {
            lengths[i] = x.beam(i, 1);
        }
    }

    private void run() {
        String street = STREETS[r.nextInt(STREETS.length)];
        feed(street);
        x.street(street.length());
        look();
        int calls = 200;
        for (int i = 0; i < calls; i++) {
            int call = r.nextInt(CALLS);
            // A new street is rare, so that the one told is asked enough.
            tryCall(call == 37 && r.nextInt(20) > 0 ? 41 : call);
        }
        for (int k = 0; k < 3; k++) {
            if (x.status(k) != refused[k + 1]) {
                wrong++;
                System.out.println("status(" + k + ") answered " + x.status(k) + ", due is " + refused[k + 1]);
            }
        }
        if (x.status(-1) != -1 || x.status(3) != -1 || x.status(Integer.MAX_VALUE) != -1) {
            wrong++;
            System.out.println("status beyond 2 is not NONE");
        }
    }

    private void feed(String text) {
        for (int i = 0; i < text.length(); i += 20) {
            int[] n = new int[5];
            for (int k = 0; k < 20; k++) {
                int c = i + k < text.length() ? text.charAt(i + k) : 0;
                n[k / 4] = n[k / 4] << 8 | c;
            }
            x.feed(n[0], n[1], n[2], n[3], n[4]);
        }
    }

    public static void main(String[] args) {
        int many = args.length > 0 ? Integer.parseInt(args[0]) : 400;
        for (int seed = 1; seed <= many; seed++) {
            new RefusalTest(seed).run();
        }
        System.out.println("RefusalTest: " + asked + " calls, " + wrong + " not as due");
        if (wrong != 0) {
            System.exit(1);
        }
    }
}
