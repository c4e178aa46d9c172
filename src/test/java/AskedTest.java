import java.util.ArrayList;
import java.util.List;

/**
 * "Asked, nothing stays changed": each question answers alike as the first one asked, behind any other one, and
 * behind each change; and what each call that changes the object changes is seen by the questions at once.
 */
public final class AskedTest {
    private static int wrong = 0;
    private static int asked = 0;

    interface Ask {
        long of(ShadeBeams x);
    }

    interface Change {
        void make(ShadeBeams x);
    }

    record Named<T>(String name, T what) {
    }

    private static final List<Named<Ask>> ASKS = new ArrayList<>();
    private static final List<Named<Change>> CHANGES = new ArrayList<>();

    private static void ask(String name, Ask a) {
        ASKS.add(new Named<>(name, a));
    }

    private static void change(String name, Change c) {
        CHANGES.add(new Named<>(name, c));
    }

    private static void due(String call, long got, long want) {
        asked++;
        if (got != want) {
            wrong++;
            System.out.println(call + " answered " + got + ", due is " + want);
        }
    }

    private static void feed(ShadeBeams x, String text) {
        for (int i = 0; i < text.length(); i += 20) {
            int[] n = new int[5];
            for (int k = 0; k < 20; k++) {
                int c = i + k < text.length() ? text.charAt(i + k) : 0;
                n[k / 4] = n[k / 4] << 8 | c;
            }
            x.feed(n[0], n[1], n[2], n[3], n[4]);
        }
    }

    private static void street(ShadeBeams x, String text) {
        feed(x, text);
        x.street(text.length());
    }

    private static void law(ShadeBeams x, String text) {
        feed(x, text);
        x.law(text.length());
    }

    private static void moves(ShadeBeams x, String text) {
        feed(x, text);
        x.moves(text.length());
    }

    private static void book(ShadeBeams x, String text) {
        feed(x, text);
        x.book(text.length());
    }

    /** Three posts, four beams; on even days a moon. One change can be undone, one image be restored. */
    private static ShadeBeams start() {
        ShadeBeams x = new ShadeBeams();
        street(x, "wide 16;post 0 3;post 5 6;post 11 2;sun 2 1 10;sun 9 0 12;sun 14 1 15;dusk 21;moon 2 0 9;cloud 7 8;cloud 17 18;"
                + "lamp 7 2;beam 5 3 1;load 0 2 5;beam 6 4 2;load 1 0 3;load 1 3 4;beam 11 2 2;load 2 1 30;beam 0 3 1;");
        moves(x, "6 0 5;12 1 2;20 3 0;");
        book(x, "2 0;0 24;");
        x.build(2, 4);
        x.put(3, 1, 9);
        x.image();
        x.day(2);
        x.lay(0, 6);
        return x;
    }

    private static void cellsAndHours() {
        for (int h : new int[] {0, 3, 7, 9, 17, 20, 23}) {
            ask("light " + h, x -> x.light(h, 0) * 1000 + x.light(h, 1) * 10 + x.light(h, 2));
            ask("shade 8 1 " + h, x -> x.shade(8, 1, h) ? 1 : 0);
            ask("bears 6 " + h, x -> x.bears(6, h));
            ask("rests 6 " + h, x -> x.rests(6, h, 0));
            ask("slack 5 " + h, x -> x.slack(5, h, 0));
            ask("lies 1 " + h, x -> x.lies(1, h));
            ask("lies 3 " + h, x -> x.lies(3, h));
            ask("places 0 " + h, x -> x.places(0, h, 0));
            ask("row " + h, x -> x.row(h, 0) * 100 + x.row(h, 1));
            ask("summed " + h, x -> x.summed(h, 0) * 100 + x.summed(h, 1));
            ask("walk 5 15 " + h, x -> x.walk(5, 15, h, 4));
        }
        ask("bearing", x -> x.bearing(2, 7, 3, 1));
        ask("bare", x -> x.bare(2, 8));
    }

    private static void beamsAndPosts() {
        for (int b = 0; b < 4; b++) {
            int beam = b;
            ask("beam " + b, x -> x.beam(beam, 0) * 1000 + x.beam(beam, 3));
            ask("puts " + b, x -> x.puts(beam, 0, 0) * 1000 + x.puts(beam, 1, 0));
            ask("falls " + b, x -> x.falls(beam));
            ask("lasts " + b, x -> x.lasts(beam));
            ask("kept " + b, x -> x.kept(beam, 2, 16));
            ask("carry " + b, x -> x.carry(beam, 3, 6, 5));
            ask("odds " + b, x -> x.odds(beam, 3, 6, 5, 0));
            ask("best " + b, x -> x.best(beam));
            ask("held " + b, x -> x.held(beam));
            ask("lighter " + b, x -> x.lighter(beam));
            ask("lit " + b, x -> x.lit(1 << beam, 2, 1));
            ask("order " + b, x -> x.order(beam));
        }
        for (int p = 0; p < 3; p++) {
            int post = p;
            ask("post " + p, x -> x.post(post, 1));
            ask("worth " + p, x -> x.worth(post));
            ask("share " + p, x -> x.share(post));
        }
        ask("heaviest", x -> x.heaviest());
        ask("fallen", x -> x.fallen());
    }

    private static void allElse() {
        ask("tower", x -> x.tower(9, 0) * 100 + x.tower(9, 1));
        ask("missing", x -> x.missing(9, 0) * 100 + x.missing(9, 1));
        ask("right", x -> x.right());
        ask("whole", x -> x.whole(0, 9));
        ask("next", x -> x.next(4));
        ask("drawn", x -> x.drawn(12, 4));
        ask("span", x -> x.span(3, 9, 2, 0, 0) * 100 + x.span(3, 9, 2, 1, 0) * 50 + x.span(3, 9, 2, 2, 3));
        for (int w = 0; w < 9; w++) {
            int what = w;
            ask("told " + w, x -> x.told(what));
        }
        for (int w = 0; w < 3; w++) {
            int what = w;
            ask("count " + w, x -> x.count(what));
            ask("status " + w, x -> x.status(what));
        }
        ask("fault", x -> x.fault());
    }

    private static void allChanges() {
        change("day", x -> x.day(3));
        change("build", x -> x.build(1, 2));
        change("lay", x -> x.lay(0, 8));
        change("put", x -> x.put(0, 0, 40));
        change("undo", x -> x.undo());
        change("restore", x -> x.restore());
        change("law", x -> law(x, "shades*3+lamp"));
        change("moves", x -> moves(x, "4 0 12;"));
        change("no moves", x -> x.moves(0));
        change("book", x -> book(x, "0 3;1 7;"));
        change("street", x -> street(x, "wide 16;post 3 9;post 4 1;post 9 9;sun 0 1 9;beam 3 2 1;beam 4 3 1;beam 0 4 2;beam 9 5 1;load 3 2 1;"));
        change("feed", x -> x.feed(1, 2, 3, 4, 5));
        change("image", x -> x.image());
        change("a faulty street", x -> street(x, "wide 9;post 9 9;"));
        change("undo and undo", x -> {
            x.undo();
            x.undo();
        });
    }

    private static long[] firstAnswers(Change c) {
        long[] answers = new long[ASKS.size()];
        for (int i = 0; i < answers.length; i++) {
            ShadeBeams x = start();
            c.make(x);
            answers[i] = ASKS.get(i).what().of(x);
        }
        return answers;
    }

    private static void askAll(ShadeBeams x, long[] want, String where) {
        for (int i = 0; i < want.length; i++) {
            due(ASKS.get(i).name() + where, ASKS.get(i).what().of(x), want[i]);
        }
    }

    private static void behindEachQuestion() {
        long[] want = firstAnswers(x -> { });
        for (Named<Ask> a : ASKS) {
            ShadeBeams x = start();
            a.what().of(x);
            askAll(x, want, " behind " + a.name());
        }
        ShadeBeams x = start();
        for (int i = want.length - 1; i >= 0; i--) {
            due(ASKS.get(i).name() + " from the last on", ASKS.get(i).what().of(x), want[i]);
        }
    }

    private static void behindEachChange() {
        long[] before = firstAnswers(x -> { });
        for (Named<Change> c : CHANGES) {
            long[] want = firstAnswers(c.what());
            int others = 0;
            for (int i = 0; i < want.length; i++) {
                others += want[i] != before[i] ? 1 : 0;
                ShadeBeams x = start();
                askAll(x, before, " ahead of " + c.name());
                c.what().make(x);
                due(ASKS.get(i).name() + " at once behind " + c.name(), ASKS.get(i).what().of(x), want[i]);
            }
            due("something is another behind " + c.name(), others > 0 ? 1 : 0, 1);
        }
    }

    public static void main(String[] args) {
        cellsAndHours();
        beamsAndPosts();
        allElse();
        allChanges();
        behindEachQuestion();
        behindEachChange();
        System.out.println("AskedTest: " + asked + " answers, " + wrong + " not as due");
        if (wrong != 0) {
            System.exit(1);
        }
    }
}
