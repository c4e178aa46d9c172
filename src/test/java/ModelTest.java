import java.math.BigInteger;
import java.util.ArrayList;
import java.util.List;
import java.util.Random;

/**
 * Random streets, asked both of ShadeBeams and of a slow model that follows the document word by word:
 * lists, whole fractions as BigIntegers, everything worked out anew for each question.
 */
public final class ModelTest {
    private static int wrong = 0;
    private static long asked = 0;

    // ---------------------------------------------------------------- the model

    /** A whole fraction, below above 0. */
    record Part(BigInteger above, BigInteger below) implements Comparable<Part> {
        static Part of(long above, long below) {
            BigInteger a = BigInteger.valueOf(above);
            BigInteger b = BigInteger.valueOf(below);
            BigInteger g = a.gcd(b);
            return new Part(a.divide(g), b.divide(g));
        }

        Part plus(Part o) {
            BigInteger a = above.multiply(o.below).add(o.above.multiply(below));
            BigInteger b = below.multiply(o.below);
            BigInteger g = a.gcd(b);
            return new Part(a.divide(g), b.divide(g));
        }

        Part times(Part o) {
            BigInteger a = above.multiply(o.above);
            BigInteger b = below.multiply(o.below);
            BigInteger g = a.gcd(b);
            return new Part(a.divide(g), b.divide(g));
        }

        Part minus(Part o) {
            return plus(new Part(o.above.negate(), o.below));
        }

        public int compareTo(Part o) {
            return above.multiply(o.below).compareTo(o.above.multiply(below));
        }

        long get(int what) {
            return what == 0 ? above.longValueExact() : below.longValueExact();
        }
    }

    interface Expr {
        int eval(int shades, int tall, int hour, int lamp);
    }

    static final class Beam {
        int x;
        int l;
        int m;
        int[] loads;

        Beam copy() {
            Beam b = new Beam();
            b.x = x;
            b.l = l;
            b.m = m;
            b.loads = loads.clone();
            return b;
        }

        Part puts(int end) {
            Part sum = Part.of(0, 1);
            for (int i = 0; i < l; i++) {
                int far = end == 0 ? l - 1 - i : i;
                sum = sum.plus(Part.of((long) (m + loads[i]) * far, l - 1));
            }
            return sum;
        }
    }

    static final class Fallen {
        int[] hour;
        List<Integer> order = new ArrayList<>();
        int[][] at = new int[24][];

        int bits() {
            int b = 0;
            for (int i : order) {
                b |= 1 << i;
            }
            return b;
        }
    }

    static final class Model {
        int wide = 20;
        List<int[]> posts = new ArrayList<>();
        List<int[]> suns = new ArrayList<>();
        int dusk = 24;
        List<int[]> moons = new ArrayList<>();
        List<int[]> clouds = new ArrayList<>();
        List<int[]> lamps = new ArrayList<>();
        List<Beam> beams = new ArrayList<>();
        Expr law = (s, t, h, l) -> s * 20;
        List<int[]> moves = new ArrayList<>();
        List<int[]> book = new ArrayList<>();
        int day = 0;

        Model copy() {
            Model c = new Model();
            c.wide = wide;
            for (int[] p : posts) {
                c.posts.add(p.clone());
            }
            c.suns.addAll(suns);
            c.dusk = dusk;
            c.moons.addAll(moons);
            c.clouds.addAll(clouds);
            c.lamps.addAll(lamps);
            for (Beam b : beams) {
                c.beams.add(b.copy());
            }
            c.law = law;
            c.moves.addAll(moves);
            c.book.addAll(book);
            c.day = day;
            return c;
        }

        boolean cloudy(int hour) {
            for (int[] c : clouds) {
                if (c[0] <= hour && hour <= c[1]) {
                    return true;
                }
            }
            return false;
        }

        /** kind, length, direction. */
        int[] light(int hour) {
            if (cloudy(hour)) {
                return new int[] {0, 0, 0};
            }
            if (hour < dusk) {
                for (int t = hour; t >= 0; t--) {
                    for (int i = suns.size() - 1; i >= 0; i--) {
                        if (suns.get(i)[0] == t) {
                            return new int[] {1, suns.get(i)[2], suns.get(i)[1]};
                        }
                    }
                }
            }
            for (int[] m : moons) {
                if (day % m[0] == m[1]) {
                    return new int[] {2, m[2], 1};
                }
            }
            return new int[] {0, 0, 0};
        }

        boolean lamp(int cell) {
            for (int[] l : lamps) {
                if (Math.abs(l[0] - cell) <= l[1]) {
                    return true;
                }
            }
            return false;
        }

        boolean shade(int cell, int post, int hour) {
            if (cloudy(hour)) {
                int begin = hour;
                while (begin > 0 && cloudy(begin - 1)) {
                    begin--;
                }
                return begin > 0 && lamp(cell) && shade(cell, post, begin - 1);
            }
            int[] light = light(hour);
            int length = posts.get(post)[1] * light[1] / 10;
            int off = light[2] == 1 ? cell - posts.get(post)[0] : posts.get(post)[0] - cell;
            return off >= 1 && off <= length;
        }

        int postOn(int cell) {
            for (int p = 0; p < posts.size(); p++) {
                if (posts.get(p)[0] == cell) {
                    return p;
                }
            }
            return -1;
        }

        int shades(int cell, int hour) {
            int n = 0;
            for (int p = 0; p < posts.size(); p++) {
                n += shade(cell, p, hour) ? 1 : 0;
            }
            return n;
        }

        int bears(int cell, int hour) {
            if (postOn(cell) >= 0) {
                return 999;
            }
            int n = 0;
            int tall = 0;
            for (int p = 0; p < posts.size(); p++) {
                if (shade(cell, p, hour)) {
                    n++;
                    tall = Math.max(tall, posts.get(p)[1]);
                }
            }
            return n == 0 ? 0 : Math.max(0, Math.min(999, law.eval(n, tall, hour, lamp(cell) ? 1 : 0)));
        }

        Part rest(int[] at, int cell) {
            Part sum = Part.of(0, 1);
            for (int b = 0; b < beams.size(); b++) {
                if (at[b] >= 0 && at[b] == cell) {
                    sum = sum.plus(beams.get(b).puts(0));
                }
                if (at[b] >= 0 && at[b] + beams.get(b).l - 1 == cell) {
                    sum = sum.plus(beams.get(b).puts(1));
                }
            }
            return sum;
        }

        Fallen go() {
            Fallen f = new Fallen();
            int[] at = new int[beams.size()];
            f.hour = new int[beams.size()];
            for (int b = 0; b < at.length; b++) {
                at[b] = beams.get(b).x;
                f.hour[b] = -1;
            }
            for (int h = 0; h < 24; h++) {
                for (int[] m : moves) {
                    if (m[0] == h && at[m[1]] >= 0) {
                        at[m[1]] = m[2];
                    }
                }
                boolean again = true;
                while (again) {
                    again = false;
                    int least = -1;
                    for (int c = 0; c < wide; c++) {
                        if (rest(at, c).compareTo(Part.of(bears(c, h), 1)) > 0) {
                            for (int b = 0; b < at.length; b++) {
                                boolean end = at[b] >= 0 && (at[b] == c || at[b] + beams.get(b).l - 1 == c);
                                if (end && (least < 0 || b < least)) {
                                    least = b;
                                }
                            }
                        }
                    }
                    if (least >= 0) {
                        at[least] = -1;
                        f.hour[least] = h;
                        f.order.add(least);
                        again = true;
                    }
                }
                f.at[h] = at.clone();
            }
            return f;
        }

        boolean stands(int beam, int left, int hour) {
            Beam b = beams.get(beam);
            return Part.of(bears(left, hour), 1).compareTo(b.puts(0)) >= 0
                    && Part.of(bears(left + b.l - 1, hour), 1).compareTo(b.puts(1)) >= 0;
        }

        /** cost, then the row of left ends; null: it can't be. Forward, the best row for each last cell. */
        int[] kept(int beam, int from, int to) {
            Beam b = beams.get(beam);
            int lefts = wide - b.l + 1;
            int[][] best = new int[lefts][];
            for (int h = from; h <= to; h++) {
                int[][] after = new int[lefts][];
                for (int x = 0; x < lefts; x++) {
                    if (!stands(beam, x, h)) {
                        continue;
                    }
                    for (int y = 0; y < (h == from ? 1 : lefts); y++) {
                        int[] row = new int[2 + h - from];
                        if (h == from) {
                            row[0] = Math.abs(x - b.x);
                        } else {
                            if (best[y] == null) {
                                continue;
                            }
                            System.arraycopy(best[y], 0, row, 0, best[y].length);
                            row[0] += Math.abs(x - y);
                        }
                        row[row.length - 1] = x;
                        if (after[x] == null || java.util.Arrays.compare(row, after[x]) < 0) {
                            after[x] = row;
                        }
                    }
                }
                best = after;
            }
            int[] all = null;
            for (int[] row : best) {
                if (row != null && (all == null || java.util.Arrays.compare(row, all) < 0)) {
                    all = row;
                }
            }
            return all;
        }

        boolean holds(int bits, int reach, int... cells) {
            Model c = copy();
            for (int x : cells) {
                c.lamps.add(new int[] {x, reach});
            }
            return (c.go().bits() & bits) == 0;
        }

        /** number, digits. */
        int[] lit(int bits, int reach) {
            if (holds(bits, reach)) {
                return new int[] {0, 0};
            }
            for (int a = 0; a < wide; a++) {
                if (holds(bits, reach, a)) {
                    return new int[] {1, a};
                }
            }
            for (int a = 0; a < wide; a++) {
                for (int b = a + 1; b < wide; b++) {
                    if (holds(bits, reach, a, b)) {
                        return new int[] {2, a * 64 + b};
                    }
                }
            }
            for (int a = 0; a < wide; a++) {
                for (int b = a + 1; b < wide; b++) {
                    for (int d = b + 1; d < wide; d++) {
                        if (holds(bits, reach, a, b, d)) {
                            return new int[] {3, (a * 64 + b) * 64 + d};
                        }
                    }
                }
            }
            return new int[] {-1, -1};
        }

        int[] tower(int high) {
            int[] best = {-1, -1};
            if (posts.size() >= 10) {
                return best;
            }
            for (int c = 0; c < wide; c++) {
                if (postOn(c) < 0) {
                    Model m = copy();
                    m.posts.add(new int[] {c, high});
                    int n = m.go().order.size();
                    if (best[0] < 0 || n < best[1]) {
                        best = new int[] {c, n};
                    }
                }
            }
            return best;
        }

        int right() {
            Fallen f = go();
            int n = 0;
            for (int[] line : book) {
                int fell = f.hour[line[0]] < 0 ? 24 : f.hour[line[0]];
                if (fell != line[1]) {
                    break;
                }
                n++;
            }
            return n;
        }

        int[] missing(int high) {
            int[] found = {0, -1};
            for (int c = 0; c < wide; c++) {
                if (postOn(c) < 0) {
                    Model m = copy();
                    m.posts.add(new int[] {c, high});
                    if (m.right() == book.size()) {
                        found[0]++;
                        found[1] = found[1] < 0 ? c : found[1];
                    }
                }
            }
            return found;
        }

        int walk(int cell, int to, int hour, int reach) {
            boolean[] here = new boolean[wide];
            here[cell] = bears(cell, hour) > 0;
            for (int h = hour; h < 24; h++) {
                if (here[to]) {
                    return h;
                }
                boolean[] then = new boolean[wide];
                for (int c = 0; c < wide && h < 23; c++) {
                    for (int d = 0; d < wide; d++) {
                        then[c] |= here[d] && Math.abs(c - d) <= reach && bears(c, h + 1) > 0;
                    }
                }
                here = then;
            }
            return -1;
        }

        boolean whole(int d) {
            Model m = copy();
            m.day = d;
            return m.go().order.isEmpty();
        }

        Part odds(int beam, int from, int to, int q) {
            Model clear = copy();
            clear.clouds.clear();
            Part all = Part.of(1, 1);
            for (int h = from; h <= to; h++) {
                if (!clear.stands(beam, beams.get(beam).x, h)) {
                    return Part.of(0, 1);
                }
                Model one = clear.copy();
                one.clouds.add(new int[] {h, h});
                if (!one.stands(beam, beams.get(beam).x, h)) {
                    all = all.times(Part.of(16 - q, 16));
                }
            }
            return all;
        }

        Fallen drawn(int seed, int q) {
            Model m = copy();
            BigInteger s = BigInteger.valueOf(seed);
            BigInteger mod = BigInteger.ONE.shiftLeft(32);
            for (int h = 0; h < 24; h++) {
                s = s.multiply(BigInteger.valueOf(1103515245)).add(BigInteger.valueOf(12345)).mod(mod);
                if (s.shiftRight(16).mod(BigInteger.valueOf(16)).intValue() < q) {
                    m.clouds.add(new int[] {h, h});
                }
            }
            return m.go();
        }

        List<Integer> places(int beam, int hour) {
            List<Integer> all = new ArrayList<>();
            for (int x = 0; x + beams.get(beam).l <= wide; x++) {
                if (stands(beam, x, hour)) {
                    all.add(x);
                }
            }
            return all;
        }

        int lighter(int beam) {
            int best = -1;
            int fewest = 99;
            for (int i = 0; i < beams.get(beam).l; i++) {
                if (beams.get(beam).loads[i] > 0) {
                    Model m = copy();
                    m.beams.get(beam).loads[i] = 0;
                    int n = m.go().order.size();
                    if (n < fewest) {
                        fewest = n;
                        best = i;
                    }
                }
            }
            return best;
        }
    }

    // ---------------------------------------------------------------- random streets

    private static int upTo(Random r, int n) {
        return r.nextInt(n + 1);
    }

    private static String gap(Random r) {
        return r.nextInt(6) == 0 ? "  " : r.nextInt(3) == 0 ? " " : "";
    }

    private static String clause(Random r, String word, int... numbers) {
        StringBuilder s = new StringBuilder(gap(r)).append(word);
        for (int i = 0; i < numbers.length; i++) {
            s.append(i == 0 ? gap(r) : " ").append(r.nextInt(20) == 0 ? "0" : "").append(numbers[i]);
        }
        return s.append(gap(r)).append(';').toString();
    }

    /** Fills the model and answers the text. */
    private static String randomStreet(Random r, Model m, int widest) {
        StringBuilder s = new StringBuilder();
        if (r.nextInt(5) > 0 || widest < 20) {
            m.wide = 4 + upTo(r, widest - 4);
            s.append(clause(r, "wide", m.wide));
        }
        int posts = Math.min(m.wide, r.nextInt(5) == 0 ? 10 : upTo(r, 6));
        // Tries enough that a street of ten posts really has ten.
        for (int i = 0; i < 40 && m.posts.size() < posts; i++) {
            int x = upTo(r, m.wide - 1);
            if (m.postOn(x) < 0) {
                int[] p = {x, r.nextInt(4) == 0 ? 1 + upTo(r, 98) : 1 + upTo(r, 15)};
                m.posts.add(p);
                s.append(clause(r, "post", p));
            }
        }
        for (int i = upTo(r, 5); i > 0; i--) {
            int[] p = {r.nextBoolean() ? upTo(r, 23) : upTo(r, 6), upTo(r, 1), r.nextInt(4) == 0 ? upTo(r, 99) : upTo(r, 20)};
            m.suns.add(p);
            s.append(clause(r, "sun", p));
        }
        if (r.nextBoolean()) {
            m.dusk = r.nextBoolean() ? 18 + upTo(r, 6) : 1 + upTo(r, 23);
            s.append(clause(r, "dusk", m.dusk));
        }
        for (int i = upTo(r, 3); i > 0; i--) {
            int by = r.nextBoolean() ? 1 + upTo(r, 4) : 1 + upTo(r, 59);
            int[] p = {by, upTo(r, by - 1), 1 + upTo(r, 40)};
            m.moons.add(p);
            s.append(clause(r, "moon", p));
        }
        for (int i = r.nextInt(3) == 0 ? 0 : upTo(r, 3); i > 0; i--) {
            int from = upTo(r, 23);
            int[] p = {from, Math.min(23, from + upTo(r, 4))};
            m.clouds.add(p);
            s.append(clause(r, "cloud", p));
        }
        for (int i = upTo(r, 4); i > 0; i--) {
            int[] p = {upTo(r, m.wide - 1), upTo(r, r.nextBoolean() ? 2 : 9)};
            m.lamps.add(p);
            s.append(clause(r, "lamp", p));
        }
        for (int i = r.nextInt(6) == 0 ? 8 : upTo(r, 4); i > 0; i--) {
            Beam b = new Beam();
            b.x = upTo(r, m.wide - 2);
            b.l = 2 + upTo(r, Math.min(r.nextBoolean() ? 4 : 18, m.wide - b.x - 2));
            b.m = 1 + upTo(r, r.nextBoolean() ? 2 : 8);
            b.loads = new int[b.l];
            m.beams.add(b);
            s.append(clause(r, "beam", b.x, b.l, b.m));
            for (int k = r.nextBoolean() ? 0 : upTo(r, 2); k > 0; k--) {
                int at = upTo(r, b.l - 1);
                b.loads[at] = r.nextInt(4) == 0 ? upTo(r, 99) : upTo(r, 20);
                s.append(clause(r, "load", m.beams.size() - 1, at, b.loads[at]));
            }
        }
        return s.append(gap(r)).toString();
    }

    private static Expr joined(char sign, Expr a, Expr b) {
        return (s, t, h, l) -> {
            int x = a.eval(s, t, h, l);
            int y = b.eval(s, t, h, l);
            switch (sign) {
                case '+': return x + y;
                case '-': return x - y;
                case '*': return x * y;
                case '/': return y == 0 ? 0 : (int) ((long) x / y);
                case '<': return x < y ? x : y;
                default: return x > y ? x : y;
            }
        };
    }

    private static Expr randomUnit(Random r, StringBuilder s, int depth) {
        s.append(gap(r));
        switch (r.nextInt(depth > 0 ? 9 : 6)) {
            case 0: {
                int n = r.nextBoolean() ? upTo(r, 30) : upTo(r, 999);
                s.append(n);
                return (a, b, c, d) -> n;
            }
            case 1:
                s.append("tall");
                return (a, b, c, d) -> b;
            case 2:
                s.append("hour");
                return (a, b, c, d) -> c;
            case 3:
                s.append("lamp");
                return (a, b, c, d) -> d;
            case 4:
            case 5:
                s.append("shades");
                return (a, b, c, d) -> a;
            case 6: {
                s.append('(');
                Expr e = randomSum(r, s, depth - 1);
                s.append(gap(r)).append(')');
                return e;
            }
            default: {
                boolean least = r.nextBoolean();
                s.append(least ? "least" : "most").append(gap(r)).append('[');
                Expr a = randomSum(r, s, depth - 1);
                s.append(gap(r)).append(',');
                Expr b = randomSum(r, s, depth - 1);
                s.append(gap(r)).append(']');
                return joined(least ? '<' : '>', a, b);
            }
        }
    }

    private static Expr randomProduct(Random r, StringBuilder s, int depth) {
        Expr e = randomUnit(r, s, depth);
        for (int i = upTo(r, 2) * upTo(r, 1); i > 0; i--) {
            char sign = r.nextInt(3) > 0 ? '*' : '/';
            s.append(gap(r)).append(sign);
            e = joined(sign, e, randomUnit(r, s, depth));
        }
        return e;
    }

    private static Expr randomSum(Random r, StringBuilder s, int depth) {
        Expr e = randomProduct(r, s, depth);
        for (int i = upTo(r, 2) * upTo(r, 1); i > 0; i--) {
            char sign = r.nextInt(3) > 0 ? '+' : '-';
            s.append(gap(r)).append(sign);
            e = joined(sign, e, randomProduct(r, s, depth));
        }
        return e;
    }

    private static void giveLaw(Random r, ShadeBeams x, Model m) {
        StringBuilder s = new StringBuilder();
        Expr e = randomSum(r, s, r.nextInt(4));
        if (s.length() <= 150) {
            feed(x, s.toString());
            due("law " + s, x.law(s.length()), 1);
            m.law = e;
        }
    }

    private static void giveMoves(Random r, ShadeBeams x, Model m) {
        if (m.beams.isEmpty()) {
            return;
        }
        StringBuilder s = new StringBuilder();
        List<int[]> all = new ArrayList<>();
        for (int i = upTo(r, r.nextInt(5) == 0 ? 16 : 4); i > 0; i--) {
            int b = upTo(r, m.beams.size() - 1);
            int[] move = {upTo(r, 23), b, upTo(r, m.wide - m.beams.get(b).l)};
            String text = gap(r) + move[0] + " " + b + " " + move[2] + gap(r) + ";";
            if (s.length() + text.length() <= 150) {
                all.add(move);
                s.append(text);
            }
        }
        feed(x, s.toString());
        due("moves " + s, x.moves(s.length()), all.size());
        m.moves = all;
    }

    private static void giveBook(Random r, ShadeBeams x, Model m) {
        if (m.beams.isEmpty()) {
            return;
        }
        Model other = m.copy();
        if (r.nextBoolean()) {
            int c = upTo(r, m.wide - 1);
            if (m.postOn(c) < 0) {
                other.posts.add(new int[] {c, 9});
            }
        }
        Fallen f = other.go();
        StringBuilder s = new StringBuilder();
        List<int[]> all = new ArrayList<>();
        for (int i = upTo(r, r.nextInt(4) == 0 ? 8 : 3); i > 0; i--) {
            int b = upTo(r, m.beams.size() - 1);
            int h = r.nextInt(5) == 0 ? upTo(r, 24) : f.hour[b] < 0 ? 24 : f.hour[b];
            all.add(new int[] {b, h});
            s.append(gap(r)).append(b).append(' ').append(h).append(';');
        }
        if (s.length() <= 100) {
            feed(x, s.toString());
            due("book " + s, x.book(s.length()), all.size());
            m.book = all;
        }
    }

    static void feed(ShadeBeams x, String text) {
        byte[] bytes = new byte[(text.length() + 19) / 20 * 20];
        for (int i = 0; i < text.length(); i++) {
            bytes[i] = (byte) text.charAt(i);
        }
        for (int i = 0; i < bytes.length; i += 20) {
            int[] n = new int[5];
            for (int k = 0; k < 20; k++) {
                n[k / 4] = n[k / 4] << 8 | bytes[i + k] & 255;
            }
            x.feed(n[0], n[1], n[2], n[3], n[4]);
        }
    }

    // ---------------------------------------------------------------- comparing

    private static String where = "";

    private static void due(String call, long got, long want) {
        asked++;
        if (got != want) {
            wrong++;
            if (wrong < 30) {
                System.out.println(where + ": " + call + " answered " + got + ", due is " + want);
            }
        }
    }

    private static void compareCells(ShadeBeams x, Model m, Fallen f) {
        for (int h = 0; h < 24; h++) {
            int[] light = m.light(h);
            for (int w = 0; w < 3; w++) {
                due("light " + h + " " + w, x.light(h, w), light[w]);
            }
            int sum = 0;
            int crossed = 0;
            int longest = 0;
            int first = -1;
            for (int c = 0; c < m.wide; c++) {
                int bears = m.bears(c, h);
                due("bears " + c + " " + h, x.bears(c, h), bears);
                sum += bears;
                crossed += m.shades(c, h) >= 2 ? 1 : 0;
                int length = 0;
                while (c + length < m.wide && m.bears(c + length, h) > 0) {
                    length++;
                }
                if (length > longest) {
                    longest = length;
                    first = c;
                }
                for (int p = 0; p < m.posts.size(); p++) {
                    due("shade", x.shade(c, p, h) ? 1 : 0, m.shade(c, p, h) ? 1 : 0);
                }
                Part rest = m.rest(f.at[h], c);
                Part slack = Part.of(bears, 1).minus(rest);
                for (int w = 0; w < 2; w++) {
                    due("rests " + c + " " + h, x.rests(c, h, w), rest.get(w));
                    due("slack " + c + " " + h, x.slack(c, h, w), slack.get(w));
                }
            }
            due("summed", x.summed(h, 0), sum);
            due("crossed", x.summed(h, 1), crossed);
            due("row", x.row(h, 0), longest);
            due("row 1", x.row(h, 1), first);
        }
    }

    private static void compareBeams(ShadeBeams x, Model m, Fallen f) {
        due("fallen", x.fallen(), f.bits());
        for (int i = -1; i < 10; i++) {
            due("order " + i, x.order(i), i >= 0 && i < f.order.size() ? f.order.get(i) : -1);
        }
        int heaviest = -1;
        Part most = Part.of(0, 1);
        for (int b = 0; b < m.beams.size(); b++) {
            Beam beam = m.beams.get(b);
            due("falls " + b, x.falls(b), f.hour[b]);
            due("lasts " + b, x.lasts(b), f.hour[b] < 0 ? 24 : f.hour[b]);
            int sum = 0;
            for (int load : beam.loads) {
                sum += load + beam.m;
            }
            due("beam 0", x.beam(b, 0), beam.x);
            due("beam 1", x.beam(b, 1), beam.l);
            due("beam 2", x.beam(b, 2), beam.m);
            due("beam 3", x.beam(b, 3), sum);
            int best = 0;
            int held = 0;
            for (int h = 0; h < 24; h++) {
                due("lies " + b + " " + h, x.lies(b, h), f.at[h][b]);
                List<Integer> places = m.places(b, h);
                due("places", x.places(b, h, 0), places.size());
                due("places 1", x.places(b, h, 1), places.isEmpty() ? -1 : places.get(0));
                due("places 2", x.places(b, h, 2), places.isEmpty() ? -1 : places.get(places.size() - 1));
                best = places.size() > m.places(b, best).size() ? h : best;
                held |= m.stands(b, beam.x, h) ? 1 << h : 0;
            }
            due("best " + b, x.best(b), best);
            due("held " + b, x.held(b), held);
            due("lighter " + b, x.lighter(b), m.lighter(b));
            for (int end = 0; end < 2; end++) {
                for (int w = 0; w < 2; w++) {
                    due("puts", x.puts(b, end, w), beam.puts(end).get(w));
                }
                if (beam.puts(end).compareTo(most) > 0) {
                    most = beam.puts(end);
                    heaviest = b;
                }
            }
        }
        due("heaviest", x.heaviest(), heaviest);
    }

    private static void compareQuestions(Random r, ShadeBeams x, Model m) {
        for (int i = 0; i < 3 && !m.beams.isEmpty(); i++) {
            int b = upTo(r, m.beams.size() - 1);
            int from = upTo(r, 23);
            int to = from + upTo(r, Math.min(r.nextBoolean() ? 4 : 23, 23 - from));
            int[] kept = m.kept(b, from, to);
            due("kept " + b + " " + from + " " + to, x.kept(b, from, to), kept == null ? -1 : kept[0]);
            for (int h = from; h <= to; h++) {
                due("carry", x.carry(b, from, to, h), kept == null ? -1 : kept[1 + h - from]);
            }
            int last = Math.min(to, from + 11);
            int q = upTo(r, 16);
            Part odds = m.odds(b, from, last, q);
            due("odds " + b + " " + from + " " + last + " " + q, x.odds(b, from, last, q, 0), odds.get(0));
            due("odds below", x.odds(b, from, last, q, 1), odds.get(1));
        }
        for (int i = 0; i < 4; i++) {
            int[] a = {upTo(r, m.wide - 1), upTo(r, m.wide - 1), upTo(r, 23), 1 + upTo(r, 8)};
            due("walk", x.walk(a[0], a[1], a[2], a[3]), m.walk(a[0], a[1], a[2], a[3]));
            int from = upTo(r, 23);
            int to = from + upTo(r, 23 - from);
            int bare = 0;
            for (int c = 0; c < m.wide; c++) {
                boolean any = false;
                for (int h = from; h <= to; h++) {
                    any |= m.bears(c, h) > 0;
                }
                bare += any ? 0 : 1;
            }
            due("bare", x.bare(from, to), bare);
        }
        int high = r.nextBoolean() ? 9 : 1 + upTo(r, 98);
        int[] tower = m.tower(high);
        due("tower " + high, x.tower(high, 0), tower[0]);
        due("tower 1", x.tower(high, 1), tower[1]);
        int now = m.go().order.size();
        for (int p = 0; p < m.posts.size(); p++) {
            due("post", x.post(p, 0), m.posts.get(p)[0]);
            due("post", x.post(p, 1), m.posts.get(p)[1]);
            Model less = m.copy();
            less.posts.remove(p);
            due("worth " + p, x.worth(p), less.go().order.size() - now);
            int share = 0;
            for (int h = 0; h < 24; h++) {
                for (int c = 0; c < m.wide; c++) {
                    share += m.shade(c, p, h) && m.shades(c, h) == 1 ? 1 : 0;
                }
            }
            due("share " + p, x.share(p), share);
        }
        due("right", x.right(), m.right());
        int[] missing = m.missing(high);
        due("missing " + high, x.missing(high, 0), missing[0]);
        due("missing 1", x.missing(high, 1), missing[1]);
    }

    private static void compareDays(Random r, ShadeBeams x, Model m) {
        int from = upTo(r, 399);
        int to = from + upTo(r, Math.min(12, 399 - from));
        int whole = 0;
        int first = -1;
        for (int d = to; d >= from; d--) {
            if (m.whole(d)) {
                whole++;
                first = d;
            }
        }
        due("whole " + from + " " + to, x.whole(from, to), whole);
        int next = x.next(from);
        if (first >= 0) {
            due("next " + from, next, first);
        } else {
            due("next is none of these", next < 0 || next > to ? 1 : 0, 1);
            due("next is whole", next < 0 || m.whole(next) ? 1 : 0, 1);
        }
        int seed = r.nextBoolean() ? r.nextInt() : upTo(r, 1) == 0 ? Integer.MAX_VALUE - 1 : upTo(r, 100);
        int q = upTo(r, 16);
        due("drawn " + seed + " " + q, x.drawn(seed, q), m.drawn(seed, q).bits());
        if (!m.beams.isEmpty()) {
            int many = 1 + upTo(r, 4);
            int beam = upTo(r, m.beams.size() - 1);
            int fewest = 99;
            int most = 0;
            int by = 0;
            for (int i = 0; i < many; i++) {
                Fallen f = m.drawn(seed + i, q);
                fewest = Math.min(fewest, f.order.size());
                most = Math.max(most, f.order.size());
                by += f.bits() >> beam & 1;
            }
            due("span 0", x.span(seed, many, q, 0, beam), fewest);
            due("span 1", x.span(seed, many, q, 1, beam), most);
            due("span 2", x.span(seed, many, q, 2, beam), by);
        }
    }

    private static void compareAll(Random r, ShadeBeams x, Model m, boolean lit) {
        int[] told = {m.wide, m.posts.size(), m.beams.size(), m.lamps.size(), m.clouds.size(), m.moons.size(),
            m.moves.size(), m.book.size(), m.day};
        for (int w = 0; w < told.length; w++) {
            due("told " + w, x.told(w), told[w]);
        }
        Fallen f = m.go();
        compareCells(x, m, f);
        compareBeams(x, m, f);
        compareQuestions(r, x, m);
        compareDays(r, x, m);
        if (lit) {
            int bits = r.nextInt(1 << m.beams.size());
            int reach = r.nextBoolean() ? upTo(r, 1) : upTo(r, 9);
            int[] best = m.lit(bits, reach);
            due("lit " + bits + " " + reach, x.lit(bits, reach, 0), best[0]);
            due("lit 1 " + bits + " " + reach, x.lit(bits, reach, 1), best[1]);
        }
        due("fallen as before", x.fallen(), f.bits());
    }

    /** Changes both of the object and of the model. */
    private static void change(Random r, ShadeBeams x, Model m) {
        if (!m.posts.isEmpty() && r.nextBoolean()) {
            int p = upTo(r, m.posts.size() - 1);
            int h = 1 + upTo(r, 30);
            due("build", x.build(p, h), m.posts.get(p)[1]);
            m.posts.get(p)[1] = h;
        }
        if (!m.beams.isEmpty()) {
            int b = upTo(r, m.beams.size() - 1);
            Beam beam = m.beams.get(b);
            int at = upTo(r, beam.l - 1);
            int load = upTo(r, 30);
            due("put", x.put(b, at, load), beam.loads[at]);
            beam.loads[at] = load;
            int left = upTo(r, m.wide - beam.l);
            due("lay", x.lay(b, left), beam.x);
            beam.x = left;
        }
    }

    private static void street(int seed, int widest) {
        where = "street " + seed;
        Random r = new Random(seed);
        ShadeBeams x = new ShadeBeams();
        Model m = new Model();
        String text = randomStreet(r, m, widest);
        if (text.length() > 600) {
            return;
        }
        feed(x, text);
        due("street " + text, x.street(text.length()), m.beams.size());
        due("fault", x.fault(), -1);
        compareAll(r, x, m, widest < 20);
        if (r.nextInt(3) > 0) {
            giveLaw(r, x, m);
        }
        if (r.nextBoolean()) {
            giveMoves(r, x, m);
        }
        giveBook(r, x, m);
        int day = upTo(r, 399);
        due("day", x.day(day), 0);
        m.day = day;
        compareAll(r, x, m, widest < 20);
        Model kept = m.copy();
        due("image", x.image(), 1);
        change(r, x, m);
        Model between = m.copy();
        int changes = x.count(2);
        change(r, x, m);
        compareAll(r, x, m, false);
        for (int n = x.count(2); n > changes; n--) {
            due("undo", x.undo(), n - 1);
        }
        compareAll(r, x, between, false);
        x.day(0);
        due("restore", x.restore(), 0);
        compareAll(r, x, kept, false);
        due("no change is left", x.count(2), 0);
    }

    /** A street under one long shade with clouds at noon, where lamps alone can hold beams up. */
    private static void lampStreet(int seed) {
        where = "lamp street " + seed;
        Random r = new Random(seed);
        ShadeBeams x = new ShadeBeams();
        Model m = new Model();
        m.wide = 8 + upTo(r, 5);
        m.posts.add(new int[] {0, 99});
        m.suns.add(new int[] {0, 1, 40});
        StringBuilder s = new StringBuilder(clause(r, "wide", m.wide));
        s.append(clause(r, "post", 0, 99)).append(clause(r, "sun", 0, 1, 40));
        for (int i = 1 + upTo(r, 1); i > 0; i--) {
            int from = upTo(r, 5) * 4 + 1;
            int[] p = {from, Math.min(23, from + upTo(r, 2))};
            m.clouds.add(p);
            s.append(clause(r, "cloud", p));
        }
        if (r.nextInt(3) == 0) {
            int[] p = {upTo(r, m.wide - 1), upTo(r, 1)};
            m.lamps.add(p);
            s.append(clause(r, "lamp", p));
        }
        for (int i = 1 + upTo(r, 2); i > 0; i--) {
            Beam b = new Beam();
            b.x = upTo(r, m.wide - 2);
            b.l = 2 + upTo(r, Math.min(5, m.wide - b.x - 2));
            b.m = 1 + upTo(r, 1);
            b.loads = new int[b.l];
            m.beams.add(b);
            s.append(clause(r, "beam", b.x, b.l, b.m));
        }
        feed(x, s.toString());
        due("street " + s, x.street(s.length()), m.beams.size());
        if (r.nextInt(4) == 0) {
            feed(x, "30 - lamp * hour");
            x.law(16);
            m.law = (a, b, c, d) -> 30 - d * c;
        }
        if (r.nextInt(3) == 0) {
            giveMoves(r, x, m);
        }
        for (int bits = 0; bits < 1 << m.beams.size(); bits++) {
            int reach = upTo(r, 1) * upTo(r, 2);
            int[] best = m.lit(bits, reach);
            due("lit " + bits + " " + reach, x.lit(bits, reach, 0), best[0]);
            due("lit 1 " + bits + " " + reach, x.lit(bits, reach, 1), best[1]);
            lampsNeeded[best[0] + 1]++;
        }
    }

    private static final int[] lampsNeeded = new int[5];

    /** A street with all the posts that can be told, where a book asks for an eleventh. */
    private static void tenPostStreet(int seed) {
        where = "street of ten posts " + seed;
        Random r = new Random(seed);
        ShadeBeams x = new ShadeBeams();
        Model m = new Model();
        m.wide = 16 + upTo(r, 8);
        StringBuilder s = new StringBuilder(clause(r, "wide", m.wide));
        for (int i = 0; i < 400 && m.posts.size() < 10; i++) {
            int[] p = {upTo(r, m.wide - 1), 1 + upTo(r, 2)};
            if (m.postOn(p[0]) < 0) {
                m.posts.add(p);
                s.append(clause(r, "post", p));
            }
        }
        int[] sun = {upTo(r, 3), upTo(r, 1), 10};
        m.suns.add(sun);
        s.append(clause(r, "sun", sun));
        for (int i = 1 + upTo(r, 2); i > 0; i--) {
            Beam b = new Beam();
            b.x = upTo(r, m.wide - 4);
            b.l = 2 + upTo(r, Math.min(6, m.wide - b.x - 2));
            b.m = 1 + upTo(r, 8);
            b.loads = new int[b.l];
            m.beams.add(b);
            s.append(clause(r, "beam", b.x, b.l, b.m));
        }
        feed(x, s.toString());
        due("street " + s, x.street(s.length()), m.beams.size());
        int high = 1 + upTo(r, 2);
        bookOfElevenPosts(r, x, m, high);
        int[] found = m.missing(high);
        due("missing " + high, x.missing(high, 0), found[0]);
        due("missing 1 " + high, x.missing(high, 1), found[1]);
        due("no tower", x.tower(high, 0), -1);
        eleventhsAsked += found[0] > 0 && m.right() < m.book.size() ? 1 : 0;
    }

    private static void bookOfElevenPosts(Random r, ShadeBeams x, Model m, int high) {
        Model other = m.copy();
        for (int i = 0; i < 400 && other.posts.size() < 11; i++) {
            int c = upTo(r, m.wide - 1);
            if (m.postOn(c) < 0) {
                other.posts.add(new int[] {c, high});
            }
        }
        Fallen f = other.go();
        StringBuilder s = new StringBuilder();
        for (int b = 0; b < m.beams.size(); b++) {
            int h = f.hour[b] < 0 ? 24 : f.hour[b];
            m.book.add(new int[] {b, h});
            s.append(gap(r)).append(b).append(' ').append(h).append(';');
        }
        feed(x, s.toString());
        due("book " + s, x.book(s.length()), m.book.size());
    }

    /** On how many streets the book is right by an eleventh post, and not without. */
    private static int eleventhsAsked;

    public static void main(String[] args) {
        int first = args.length > 0 ? Integer.parseInt(args[0]) : 1;
        int many = args.length > 1 ? Integer.parseInt(args[1]) : 60;
        for (int seed = first; seed < first + many; seed++) {
            street(seed, seed % 3 == 0 ? 40 : seed % 3 == 1 ? 10 : 14);
        }
        for (int seed = first; seed < first + many; seed++) {
            lampStreet(seed);
        }
        for (int lamps = 0; lamps <= 4; lamps++) {
            due("streets of each kind", lampsNeeded[lamps] > 0 ? 1 : 0, 1);
        }
        for (int seed = first; seed < first + 5 * many; seed++) {
            tenPostStreet(seed);
        }
        due("streets that an eleventh post sets right", eleventhsAsked > 0 ? 1 : 0, 1);
        System.out.println("ModelTest: " + asked + " answers, " + wrong + " not as due");
        if (wrong != 0) {
            System.exit(1);
        }
    }
}
