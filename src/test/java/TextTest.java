import java.util.ArrayList;
import java.util.Collections;
import java.util.List;
import java.util.Random;

/**
 * Texts, whole and spoilt, read both by ShadeBeams and by a second reader that cuts a text into pieces first
 * and gathers every fault that can be told of the pieces up to the first bad one.
 */
public final class TextTest {
    private static int wrong = 0;
    private static long asked = 0;
    private static final int[] kinds = new int[5];

    /** kind: 'n' a number, 'w' a word, 's' a sign, 'e' the end. */
    record Piece(char kind, String text, int at) {
        int value() {
            String s = text.replaceFirst("^0+(?=.)", "");
            return s.length() > 8 ? 99999999 : Integer.parseInt(s);
        }
    }

    static final class Bad extends RuntimeException {
        final int kind;
        final int at;

        Bad(int kind, int at) {
            this.kind = kind;
            this.at = at;
        }
    }

    static final class Pieces {
        final List<Piece> all = new ArrayList<>();
        int next = 0;

        Pieces(String s) {
            int i = 0;
            while (i < s.length()) {
                char c = s.charAt(i);
                int j = i + 1;
                if (c == ' ') {
                    i = j;
                    continue;
                }
                char kind = c >= '0' && c <= '9' ? 'n' : c >= 'a' && c <= 'z' ? 'w' : 's';
                while (kind == 'n' && j < s.length() && s.charAt(j) >= '0' && s.charAt(j) <= '9') {
                    j++;
                }
                while (kind == 'w' && j < s.length() && s.charAt(j) >= 'a' && s.charAt(j) <= 'z') {
                    j++;
                }
                all.add(new Piece(kind, s.substring(i, j), i));
                i = j;
            }
            all.add(new Piece('e', "", s.length()));
        }

        Piece peek() {
            return all.get(next);
        }

        Piece take(char kind) {
            Piece p = peek();
            if (p.kind() != kind) {
                throw new Bad(1, p.at());
            }
            next++;
            return p;
        }

        int number(int low, int high) {
            Piece p = take('n');
            if (p.value() < low || p.value() > high) {
                throw new Bad(2, p.at());
            }
            return p.value();
        }

        void sign(String s) {
            if (!peek().text().equals(s)) {
                throw new Bad(1, peek().at());
            }
            next++;
        }
    }

    static final class Told {
        int wide = 20;
        final List<Integer> posts = new ArrayList<>();
        final List<int[]> beams = new ArrayList<>();
        int suns;
        int moons;
        int clouds;
        int lamps;
    }

    static Told street(Pieces p) {
        Told t = new Told();
        for (int clause = 1; p.peek().kind() != 'e'; clause++) {
            Piece word = p.take('w');
            List<Integer> faults = new ArrayList<>();
            int most;
            int now;
            switch (word.text()) {
                case "wide": most = 99; now = 0; break;
                case "post": most = 10; now = t.posts.size(); break;
                case "sun": most = 12; now = t.suns; break;
                case "dusk": most = 99; now = 0; break;
                case "moon": most = 3; now = t.moons; break;
                case "cloud": most = 6; now = t.clouds; break;
                case "lamp": most = 6; now = t.lamps; break;
                case "beam": most = 8; now = t.beams.size(); break;
                case "load": most = 99; now = 0; break;
                default: throw new Bad(1, word.at());
            }
            if (clause > 60 || now >= most) {
                faults.add(3);
            }
            if (word.text().equals("wide") && clause > 1) {
                faults.add(4);
            }
            if (!faults.isEmpty()) {
                throw new Bad(Collections.min(faults), word.at());
            }
            clause(p, t, word.text());
            p.sign(";");
        }
        return t;
    }

    private static void clause(Pieces p, Told t, String word) {
        switch (word) {
            case "wide":
                t.wide = p.number(4, 40);
                break;
            case "post": {
                int at = p.peek().at();
                int x = p.number(0, t.wide - 1);
                if (t.posts.contains(x)) {
                    throw new Bad(2, at);
                }
                p.number(1, 99);
                t.posts.add(x);
                break;
            }
            case "sun":
                p.number(0, 23);
                p.number(0, 1);
                p.number(0, 99);
                t.suns++;
                break;
            case "dusk":
                p.number(1, 24);
                break;
            case "moon": {
                int by = p.number(1, 60);
                p.number(0, by - 1);
                p.number(1, 99);
                t.moons++;
                break;
            }
            case "cloud": {
                int from = p.number(0, 23);
                p.number(from, 23);
                t.clouds++;
                break;
            }
            case "lamp":
                p.number(0, t.wide - 1);
                p.number(0, 9);
                t.lamps++;
                break;
            case "beam": {
                int x = p.number(0, t.wide - 1);
                int at = p.peek().at();
                int l = p.number(2, 20);
                if (x + l > t.wide) {
                    throw new Bad(2, at);
                }
                p.number(1, 9);
                t.beams.add(new int[] {x, l});
                break;
            }
            default: {
                int b = p.number(0, t.beams.size() - 1);
                p.number(0, t.beams.get(b)[1] - 1);
                p.number(0, 99);
                break;
            }
        }
    }

    static int moves(Pieces p, Told t) {
        int n = 0;
        while (p.peek().kind() != 'e') {
            int at = p.peek().at();
            p.number(0, 23);
            if (n == 16) {
                throw new Bad(3, at);
            }
            int b = p.number(0, t.beams.size() - 1);
            p.number(0, t.wide - t.beams.get(b)[1]);
            p.sign(";");
            n++;
        }
        return n;
    }

    static int book(Pieces p, Told t) {
        int n = 0;
        while (p.peek().kind() != 'e') {
            int at = p.peek().at();
            p.number(0, t.beams.size() - 1);
            if (n == 8) {
                throw new Bad(3, at);
            }
            p.number(0, 24);
            p.sign(";");
            n++;
        }
        return n;
    }

    static void sum(Pieces p, int open) {
        product(p, open);
        while (p.peek().text().equals("+") || p.peek().text().equals("-")) {
            p.next++;
            product(p, open);
        }
    }

    static void product(Pieces p, int open) {
        unit(p, open);
        while (p.peek().text().equals("*") || p.peek().text().equals("/")) {
            p.next++;
            unit(p, open);
        }
    }

    static void unit(Pieces p, int open) {
        Piece q = p.peek();
        switch (q.text()) {
            case "shades":
            case "tall":
            case "hour":
            case "lamp":
                p.next++;
                return;
            case "(":
            case "least":
            case "most":
                if (open == 6) {
                    throw new Bad(3, q.at());
                }
                p.next++;
                if (q.text().equals("(")) {
                    sum(p, open + 1);
                    p.sign(")");
                    return;
                }
                p.sign("[");
                sum(p, open + 1);
                p.sign(",");
                sum(p, open + 1);
                p.sign("]");
                return;
            default:
                p.number(0, 999);
        }
    }

    // ---------------------------------------------------------------- comparing

    private static void due(String call, long got, long want) {
        asked++;
        if (got != want) {
            wrong++;
            if (wrong < 30) {
                System.out.println(call + " answered " + got + ", due is " + want);
            }
        }
    }

    private static void feed(ShadeBeams x, String text) {
        for (int i = 0; i < text.length(); i += 20) {
            int[] n = new int[5];
            for (int k = 0; k < 20; k++) {
                int c = i + k < text.length() ? text.charAt(i + k) : '#';
                n[k / 4] = n[k / 4] << 8 | c & 255;
            }
            x.feed(n[0], n[1], n[2], n[3], n[4]);
        }
    }

    /** Which text: 0 a street, 1 a law, 2 moves, 3 a book. */
    private static void compare(ShadeBeams x, Told t, int which, String text) {
        int want;
        int place = -1;
        Told read = null;
        Pieces p = new Pieces(text);
        try {
            if (which == 0) {
                read = street(p);
                want = read.beams.size();
            } else if (which == 1) {
                sum(p, 0);
                p.take('e');
                want = 1;
            } else {
                want = which == 2 ? moves(p, t) : book(p, t);
            }
            kinds[0]++;
        } catch (Bad b) {
            want = b.kind - 10;
            place = b.at;
            kinds[b.kind]++;
        }
        feed(x, text);
        int n = text.length();
        int got = which == 0 ? x.street(n) : which == 1 ? x.law(n) : which == 2 ? x.moves(n) : x.book(n);
        due("text '" + text + "'", got, want);
        due("fault of '" + text + "'", x.fault(), place);
        due("tape behind '" + text + "'", x.count(1), 0);
        if (read != null) {
            due("wide", x.told(0), read.wide);
            due("posts", x.told(1), read.posts.size());
            due("lamps", x.told(3), read.lamps);
            due("clouds", x.told(4), read.clouds);
            due("moons", x.told(5), read.moons);
        }
    }

    // ---------------------------------------------------------------- texts

    private static int upTo(Random r, int n) {
        return r.nextInt(n + 1);
    }

    private static String clauseText(Random r, int beams) {
        switch (r.nextInt(10)) {
            case 0: return "post " + upTo(r, 20) + " " + upTo(r, 30) + ";";
            case 1: return "sun " + upTo(r, 24) + " " + upTo(r, 1) + " " + upTo(r, 99) + ";";
            case 2: return "dusk " + upTo(r, 24) + ";";
            case 3: return "moon " + (1 + upTo(r, 30)) + " " + upTo(r, 3) + " " + upTo(r, 50) + ";";
            case 4: return "cloud " + upTo(r, 12) + " " + (8 + upTo(r, 16)) + ";";
            case 5: return "lamp " + upTo(r, 19) + " " + upTo(r, 9) + ";";
            case 6:
            case 7: return "beam " + upTo(r, 14) + " " + (2 + upTo(r, 5)) + " " + (1 + upTo(r, 8)) + ";";
            case 8: return r.nextInt(8) == 0 ? "wide " + (4 + upTo(r, 36)) + ";" : "dusk 12;";
            default: return "load " + upTo(r, 2) + " " + upTo(r, 2) + " " + upTo(r, 99) + ";";
        }
    }

    private static String streetText(Random r) {
        StringBuilder s = new StringBuilder(r.nextInt(3) == 0 ? "wide " + (16 + upTo(r, 24)) + ";" : "");
        for (int i = upTo(r, r.nextInt(6) == 0 ? 70 : 9); i > 0; i--) {
            String c = clauseText(r, 3);
            if (s.length() + c.length() <= 600) {
                s.append(c);
            }
        }
        return s.toString();
    }

    private static String lawText(Random r, int depth) {
        int kind = r.nextInt(depth > 0 ? 9 : 4);
        switch (kind) {
            case 0: return "" + (r.nextInt(9) == 0 ? 900 + upTo(r, 110) : upTo(r, 99));
            case 1: return "shades";
            case 2: return r.nextBoolean() ? "hour" : "lamp";
            case 3: return "tall";
            case 4: return "(" + lawText(r, depth - 1) + ")";
            case 5: return "least[" + lawText(r, depth - 1) + "," + lawText(r, depth - 2) + "]";
            case 6: return "most[" + lawText(r, depth - 2) + "," + lawText(r, depth - 1) + "]";
            default: return lawText(r, depth - 1) + "+-*/".charAt(r.nextInt(4)) + lawText(r, depth - 1);
        }
    }

    private static String linesText(Random r, boolean moves) {
        StringBuilder s = new StringBuilder();
        for (int i = upTo(r, r.nextInt(3) == 0 ? 18 : 4); i > 0; i--) {
            s.append(moves ? upTo(r, 23) + " " : "").append(upTo(r, 2)).append(' ');
            s.append(moves ? upTo(r, 16) : upTo(r, 24)).append(';');
        }
        return s.toString();
    }

    private static final String SPOILERS = " ;0123456789abelmostuwx()[],+-*/AZ._" + (char) 0 + (char) 31 + (char) 200 + (char) 255;

    private static String spoilt(Random r, String text) {
        StringBuilder s = new StringBuilder(text);
        for (int i = r.nextInt(3); i > 0; i--) {
            char c = SPOILERS.charAt(r.nextInt(SPOILERS.length()));
            int at = upTo(r, s.length());
            switch (r.nextInt(5)) {
                case 0:
                    s.insert(at, c);
                    break;
                case 1:
                    s.insert(at, ' ');
                    break;
                case 2:
                    if (at < s.length()) {
                        s.deleteCharAt(at);
                    }
                    break;
                case 3:
                    if (at < s.length()) {
                        s.setCharAt(at, c);
                    }
                    break;
                default:
                    s.setLength(r.nextInt(3) == 0 ? at : s.length());
                    break;
            }
        }
        return s.toString();
    }

    private static void spoiltTexts(int seed) {
        Random r = new Random(seed);
        ShadeBeams x = new ShadeBeams();
        String base = "wide 18;beam 0 4 1;beam 2 5 3;beam 10 8 2;";
        Told t = street(new Pieces(base));
        compare(x, t, 0, base);
        for (int i = 0; i < 20; i++) {
            String law = spoilt(r, lawText(r, r.nextInt(9)));
            if (law.length() <= 150) {
                compare(x, t, 1, law);
            }
            String moves = spoilt(r, linesText(r, true));
            if (moves.length() <= 150) {
                compare(x, t, 2, moves);
            }
            String book = spoilt(r, linesText(r, false));
            if (book.length() <= 100) {
                compare(x, t, 3, book);
            }
        }
        for (int i = 0; i < 20; i++) {
            String street = spoilt(r, streetText(r));
            if (street.length() <= 600) {
                compare(x, null, 0, street);
            }
        }
    }

    private static String times(String s, int n) {
        return s.repeat(n);
    }

    private static void chosenTexts() {
        ShadeBeams x = new ShadeBeams();
        String[] streets = {
            "", "   ", ";", "wide", "wide ", "wide 4;", "wide 40;", "wide4;", "wide 04;", "wide 4 ;", "wide 4; ", "wide 4;wide 4;",
            "wide 0000000000000000000000000000000000020;", "wide 99999999999999999999;", "wide 4294967316;",
            " wide 5;post 4 1;", "wide 5;post 5 1;", "post 19 99;", "post 19 100;", "post 1 1 1;", "post 1;", "Post 1 1;", "posts 1 1;",
            "pos t 1 1;", "post1 1;", "post 1 1", "post 1 1,", "sun 0 1 99;sun 0 0 0;", "sun 0 1 100;", "sun 23 1 5;", "dusk 24;", "dusk 25;", "dusk 1;dusk 0;",
            "moon 60 59 99;", "moon 61 0 1;", "moon 0 0 1;", "moon 1 0 0;", "moon 1 1 5;", "cloud 0 23;", "cloud 24 24;", "cloud 23 24;", "cloud 5 5;",
            "lamp 19 9;", "lamp 20 9;", "lamp 0 0;lamp 0 0;", "beam 0 20 9;", "beam 0 21 9;", "beam 18 2 1;", "beam 19 2 1;", "beam 19 1 1;", "beam 0 2 0;",
            "beam 0 2 10;", "load 0 0 0;beam 0 2 1;", "beam 0 2 1;load 0 1 99;load 0 1 0;", "beam 0 2 1;load 1 0 0;", "beam 0 2 1;load 0 0 100;",
            times("dusk 5;", 60), times("dusk 5;", 61), times("dusk 5;", 60) + "walls", times("dusk 5;", 60) + "wide", times("dusk 5;", 60) + " dusk",
            times("dusk 5;", 60) + "5", times("dusk 5;", 60) + "  ", "wide 9;" + times("dusk 5;", 59), "wide 9;" + times("dusk 5;", 60),
            times("sun 1 1 1;", 12), times("sun 1 1 1;", 13), times("cloud 1 1;", 6), times("cloud 1 1;", 7), times("lamp 1 1;", 7), times("lamp 1 1;", 6),
            times("beam 1 2 1;", 8), times("beam 1 2 1;", 9), times("moon 1 0 1;", 3), times("moon 1 0 1;", 4), "dusk 5;wide", "dusk 5; wide 3;",
            "post 0 1;post 1 1;post 2 1;post 3 1;post 4 1;post 5 1;post 6 1;post 7 1;post 8 1;post 9 1;",
            "post 0 1;post 1 1;post 2 1;post 3 1;post 4 1;post 5 1;post 6 1;post 7 1;post 8 1;post 9 1; post 0 1;",
            "dusk 5 ; ; ", "dusk  5;\t", "dusk 5;" + (char) 0, (char) 255 + "dusk 5;", "dusk -5;", "dusk +5;", "dusk 5.0;"};
        for (String s : streets) {
            compare(x, null, 0, s);
        }
        String base = "wide 10;beam 0 4 1;beam 2 5 3;";
        Told t = street(new Pieces(base));
        compare(x, t, 0, base);
        String[] laws = {"", " ", "0", "999", "1000", " 7 ", "shades", "shade", "shadess", "tall hour", "2shades", "1+", "+1", "1--1", "1 2", "()", "(1", "1)", "(1))",
            "least", "least[", "least[1", "least[1,", "least[1,2", "least[1,2]", "least[1]", "least(1,2)", "most [ 1 , 2 ] ", "most[1;2]", "leastmost[1,2]",
            times("(", 6) + "1" + times(")", 6), times("(", 7) + "1" + times(")", 7), times("least[1,", 6) + "1" + times("]", 6), times("least[1,", 7) + "1" + times("]", 7),
            times("((", 3) + "least", times("((", 3) + "leas", times("((", 3) + "1000", times("most[", 6) + "most", "(1)*(2)-(3)/(4)+(5)*(6)+(7)+(8)", times("(1)+", 20) + "1",
            "1*2*3/4+5-6", "1,2", "a", "A", "1" + (char) 0, times("1+", 74) + "12", "hour/lamp", "00999", "01000", "12345678901234567890"};
        for (String s : laws) {
            compare(x, t, 1, s);
        }
        String[] moves = {"", "  ", "0 0 0;", "23 1 5;", "24 1 5;", "23 2 5;", "23 1 6;", "23 0 6;", "23 0 7;", "1 1;", "1 1 1", "1 1 1 1;", "x", ";", "1 1 1;;",
            times("1 1 1;", 16), times("1 1 1;", 17), times("1 1 1;", 16) + "24", times("1 1 1;", 16) + "3 9", times("1 1 1;", 16) + "x", times("1 1 1;", 16) + "   "};
        for (String s : moves) {
            compare(x, t, 2, s);
        }
        String[] books = {"", " ", "0 0;", "1 24;", "1 25;", "2 0;", "0;", "0 0", "0 0 0;", times("0 0;", 8), times("0 0;", 9), times("0 0;", 8) + "2", times("0 0;", 8) + "a", times("0 0;", 8) + " "};
        for (String s : books) {
            compare(x, t, 3, s);
        }
    }

    public static void main(String[] args) {
        int many = args.length > 0 ? Integer.parseInt(args[0]) : 400;
        chosenTexts();
        for (int seed = 1; seed <= many; seed++) {
            spoiltTexts(seed);
        }
        for (int k = 0; k < kinds.length; k++) {
            due("texts of each kind", kinds[k] > 10 ? 1 : 0, 1);
        }
        System.out.println("TextTest: " + asked + " answers, " + wrong + " not as due");
        if (wrong != 0) {
            System.exit(1);
        }
    }
}
