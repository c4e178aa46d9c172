import java.util.Arrays;
import java.util.NoSuchElementException;

/** A street of posts, light and beams: what the shade bears, what rests on it and what falls. */
public final class ShadeBeams {
    public static final int NONE = -1;

    private static final int HOURS = 24;
    private static final int DAYS = 400;
    private static final int CELLS = 40;
    private static final int POSTS = 10;
    /** What if there were one post more: that may be on a street that tells of all it may. */
    private static final int TRIED_POSTS = POSTS + 1;
    private static final int BEAMS = 8;
    private static final int MOONS = 3;
    private static final int LONGEST = 20;
    private static final int HIGHEST = 99;
    private static final int SOLID = 999;
    private static final int TAPE_BYTES = 600;
    private static final int FED_BYTES = 20;
    private static final int LAW_BYTES = 150;
    private static final int MOVES_BYTES = 150;
    private static final int BOOK_BYTES = 100;
    private static final int MOVES = 16;
    private static final int BOOK_LINES = 8;
    private static final int CHANGES = 20;
    private static final int IMAGES = 3;
    private static final int MORE_LAMPS = 3;
    private static final int ODDS_HOURS = 12;
    private static final int SEEDS = 40;
    private static final int MORE_THAN_ALL = 1000000;

    /** Fractions are held in parts of one UNIT: every divisor from 1 to 19, all that L less 1 can be, divides it. */
    private static final long UNIT = 232792560L;

    private static final int OUT_OF_PLACE = 1;
    private static final int NO_SUCH_NUMBER = 2;
    private static final int TOO_MANY = 3;
    private static final int WIDE_TOO_LATE = 4;
    private static final int FAULT_SHIFT = 10;

    private static final int SUN = 1;
    private static final int MOON = 2;
    private static final int RIGHTWARD = 1;

    private static final int BUILT = 0;
    private static final int LAID = 1;
    private static final int LOADED = 2;

    private final Tape tape = new Tape();
    private final int[] refused = new int[3];
    private final Law law = new Law();
    private final Law lawDraft = new Law();
    private final Lines moveLines = new Lines();
    private final Lines bookLines = new Lines();
    private final Lines linesDraft = new Lines();
    private final Changes changes = new Changes();
    private final Image[] images = new Image[IMAGES];
    private final Ground ground = new Ground();
    private final Ground trialGround = new Ground();
    private final DayRun run = new DayRun();
    private final DayRun trialRun = new DayRun();
    private final Carrier carrier = new Carrier();
    private final Lamplighter lamplighter = new Lamplighter();
    private Street now = new Street();
    private Street draft = new Street();
    private int today;
    private int imageCount;
    private boolean stale = true;

    public ShadeBeams() {
        for (int i = 0; i < images.length; i++) {
            images[i] = new Image();
        }
    }

    // ---- texts

    public int feed(int a, int b, int c, int d, int e) {
        if (!tape.hasRoom()) {
            return NONE;
        }
        tape.add(a);
        tape.add(b);
        tape.add(c);
        tape.add(d);
        tape.add(e);
        return tape.size;
    }

    public int street(int n) throws IllegalArgumentException {
        openText(n, TAPE_BYTES);
        draft.read(tape);
        if (tape.failed()) {
            return tape.answer();
        }
        Street old = now;
        now = draft;
        draft = old;
        forgetStreet();
        return now.beams.number;
    }

    public int law(int n) throws IllegalArgumentException {
        openText(n, LAW_BYTES);
        lawDraft.read(tape);
        if (tape.failed()) {
            return tape.answer();
        }
        law.copyFrom(lawDraft);
        stale = true;
        return 1;
    }

    public int moves(int n) throws IllegalArgumentException {
        openText(n, MOVES_BYTES);
        linesDraft.readMoves(tape, now);
        if (tape.failed()) {
            return tape.answer();
        }
        moveLines.copyFrom(linesDraft);
        stale = true;
        return moveLines.number;
    }

    public int book(int n) throws IllegalArgumentException {
        openText(n, BOOK_BYTES);
        linesDraft.readBook(tape, now.beams.number);
        if (tape.failed()) {
            return tape.answer();
        }
        bookLines.copyFrom(linesDraft);
        return bookLines.number;
    }

    public int fault() {
        return tape.faultPlace;
    }

    private void openText(int n, int most) {
        need(n >= 0 && n <= most && n <= tape.size);
        tape.open(n);
    }

    private void forgetStreet() {
        today = 0;
        law.setPlain();
        moveLines.number = 0;
        bookLines.number = 0;
        changes.number = 0;
        imageCount = 0;
        stale = true;
    }

    // ---- what is told, what bears, what rests

    public int told(int what) throws IllegalArgumentException {
        switch (what) {
            case 0: return now.wide;
            case 1: return now.posts;
            case 2: return now.beams.number;
            case 3: return now.lamps;
            case 4: return now.clouds;
            case 5: return now.moons;
            case 6: return moveLines.number;
            case 7: return bookLines.number;
            case 8: return today;
            default:
                need(false);
                return NONE;
        }
    }

    public int post(int post, int what) throws NoSuchElementException, IllegalArgumentException {
        needPost(post);
        needWhat(what, 1);
        return what == 0 ? now.postX[post] : now.postHigh[post];
    }

    public int beam(int beam, int what) throws NoSuchElementException, IllegalArgumentException {
        needBeam(beam);
        needWhat(what, 3);
        switch (what) {
            case 0: return now.beams.x[beam];
            case 1: return now.beams.cells[beam];
            case 2: return now.beams.heavy[beam];
            default: return now.beams.allOf(beam);
        }
    }

    public int light(int hour, int what) throws IllegalArgumentException {
        needHour(hour);
        needWhat(what, 2);
        refresh();
        if (ground.isCloudy(hour)) {
            return 0;
        }
        switch (what) {
            case 0: return ground.lightKind[hour];
            case 1: return ground.lightLong[hour];
            default: return ground.lightWay[hour];
        }
    }

    public boolean shade(int cell, int post, int hour)
            throws IndexOutOfBoundsException, NoSuchElementException, IllegalArgumentException {
        needCell(cell);
        needPost(post);
        needHour(hour);
        refresh();
        return (ground.shadesOn(cell, hour) >> post & 1) == 1;
    }

    public int bears(int cell, int hour) throws IndexOutOfBoundsException, IllegalArgumentException {
        needCell(cell);
        needHour(hour);
        refresh();
        return ground.borneOn(cell, hour);
    }

    public int bearing(int shades, int tall, int hour, int lamp) throws IllegalArgumentException {
        need(isWithin(shades, 0, POSTS) && isWithin(tall, 0, HIGHEST));
        needHour(hour);
        need(isWithin(lamp, 0, 1));
        return law.borne(shades, tall, hour, lamp);
    }

    public long rests(int cell, int hour, int what) throws IndexOutOfBoundsException, IllegalArgumentException {
        needCell(cell);
        needHour(hour);
        needWhat(what, 1);
        refresh();
        return inLeastTerms(run.restOn(now.beams, cell, hour), UNIT, what);
    }

    public long puts(int beam, int end, int what) throws NoSuchElementException, IllegalArgumentException {
        needBeam(beam);
        need(isWithin(end, 0, 1));
        needWhat(what, 1);
        return inLeastTerms(end == 0 ? now.beams.onLeft[beam] : now.beams.onRight[beam], UNIT, what);
    }

    public int falls(int beam) throws NoSuchElementException {
        needBeam(beam);
        refresh();
        return run.fallHour[beam];
    }

    public int lies(int beam, int hour) throws NoSuchElementException, IllegalArgumentException {
        needBeam(beam);
        needHour(hour);
        refresh();
        return run.placeBehind(beam, hour);
    }

    public int fallen() {
        refresh();
        return run.fallenBits;
    }

    public int order(int i) {
        refresh();
        return i >= 0 && i < run.fallenNumber ? run.fallOrder[i] : NONE;
    }

    public int day(int day) throws IllegalArgumentException {
        needDay(day);
        int was = today;
        today = day;
        stale = true;
        return was;
    }

    // ---- what would keep beams up

    public int kept(int beam, int from, int to) throws NoSuchElementException, IllegalArgumentException {
        needBeam(beam);
        needHours(from, to);
        refresh();
        carrier.plan(ground, now.beams, beam, from, to);
        return carrier.fewest();
    }

    public int carry(int beam, int from, int to, int hour) throws NoSuchElementException, IllegalArgumentException {
        needBeam(beam);
        needHours(from, to);
        need(isWithin(hour, from, to));
        refresh();
        carrier.plan(ground, now.beams, beam, from, to);
        return carrier.placeIn(hour);
    }

    public int lit(int beams, int reach, int what) throws IllegalArgumentException {
        need(isWithin(beams, 0, (1 << now.beams.number) - 1));
        need(isWithin(reach, 0, 9));
        needWhat(what, 1);
        prepareTrial();
        lamplighter.gather(trialGround, now.beams, moveLines, reach);
        lamplighter.demand(trialGround, now.beams, moveLines, beams);
        for (int more = 0; more <= MORE_LAMPS; more++) {
            if (findLamps(beams, more)) {
                return what == 0 ? more : lamplighter.digits(more);
            }
        }
        return NONE;
    }

    /** Goes through all ways to put so many lamps more, by rising cells, up to the first that keeps the beams up. */
    private boolean findLamps(int beams, int more) {
        boolean picked = lamplighter.pickFirst(more);
        for (int tried = 0; picked && tried < MORE_THAN_ALL; tried++) {
            if (keepsUp(beams, lamplighter.litBy(more, now.lampCells))) {
                return true;
            }
            picked = lamplighter.pickNext(more);
        }
        return false;
    }

    private boolean keepsUp(int beams, long lit) {
        if (!lamplighter.allows(lit)) {
            return false;
        }
        trialGround.lampCells = lit;
        trialRun.go(trialGround, now.beams, moveLines, beams);
        return (trialRun.fallenBits & beams) == 0;
    }

    public int tower(int high, int what) throws IllegalArgumentException {
        need(isWithin(high, 1, HIGHEST));
        needWhat(what, 1);
        int best = NONE;
        int fewest = BEAMS + 1;
        for (int cell = 0; cell < now.wide && now.posts < POSTS; cell++) {
            if (!now.hasPost(cell)) {
                goWithPost(cell, high);
                if (trialRun.fallenNumber < fewest) {
                    fewest = trialRun.fallenNumber;
                    best = cell;
                }
            }
        }
        return best == NONE || what == 0 ? best : fewest;
    }

    public int worth(int post) throws NoSuchElementException {
        needPost(post);
        refresh();
        trialGround.takeStreet(now, law, now.moonOf(today));
        trialGround.dropPost(post);
        trialGround.settle(now.cloudHours);
        trialRun.go(trialGround, now.beams, moveLines, 0);
        return trialRun.fallenNumber - run.fallenNumber;
    }

    public int walk(int cell, int to, int hour, int reach) throws IndexOutOfBoundsException, IllegalArgumentException {
        needCell(cell);
        needCell(to);
        needHour(hour);
        need(isWithin(reach, 1, 9));
        refresh();
        long here = 1L << cell & ground.bearingCells(hour);
        for (int at = hour; at < HOURS && here != 0; at++) {
            if ((here >> to & 1) == 1) {
                return at;
            }
            here = at + 1 < HOURS ? spread(here, reach) & ground.bearingCells(at + 1) : 0;
        }
        return NONE;
    }

    public int missing(int high, int what) throws IllegalArgumentException {
        need(isWithin(high, 1, HIGHEST));
        needWhat(what, 1);
        int number = 0;
        int first = NONE;
        for (int cell = 0; cell < now.wide; cell++) {
            if (!now.hasPost(cell)) {
                goWithPost(cell, high);
                if (rightLines(trialRun) == bookLines.number) {
                    number++;
                    first = first == NONE ? cell : first;
                }
            }
        }
        return what == 0 ? number : first;
    }

    public int right() {
        refresh();
        return rightLines(run);
    }

    private void goWithPost(int cell, int high) {
        trialGround.takeStreet(now, law, now.moonOf(today));
        trialGround.addPost(cell, high);
        trialGround.settle(now.cloudHours);
        trialRun.go(trialGround, now.beams, moveLines, 0);
    }

    private int rightLines(DayRun some) {
        int lines = 0;
        while (lines < bookLines.number && isRight(some, lines)) {
            lines++;
        }
        return lines;
    }

    private boolean isRight(DayRun some, int line) {
        int fell = some.fallHour[bookLines.first[line]];
        return (fell == NONE ? HOURS : fell) == bookLines.second[line];
    }

    // ---- days and odds

    public int whole(int from, int to) throws IllegalArgumentException {
        needDay(from);
        needDay(to);
        need(from <= to);
        int wholeKinds = wholeKinds();
        int number = 0;
        for (int day = from; day <= to; day++) {
            number += wholeKinds >> kindOf(day) & 1;
        }
        return number;
    }

    public int next(int day) throws IllegalArgumentException {
        needDay(day);
        int wholeKinds = wholeKinds();
        for (int d = day; d < DAYS; d++) {
            if ((wholeKinds >> kindOf(d) & 1) == 1) {
                return d;
            }
        }
        return NONE;
    }

    /** Days differ by their moon alone: 0 those without one, then those of each moon. */
    private int kindOf(int day) {
        return now.moonOf(day) + 1;
    }

    private int wholeKinds() {
        int kinds = 0;
        for (int kind = 0; kind <= now.moons; kind++) {
            trialGround.takeStreet(now, law, kind - 1);
            trialGround.settle(now.cloudHours);
            trialRun.go(trialGround, now.beams, moveLines, 0);
            if (trialRun.fallenNumber == 0) {
                kinds |= 1 << kind;
            }
        }
        return kinds;
    }

    public long odds(int beam, int from, int to, int q, int what)
            throws NoSuchElementException, IllegalArgumentException {
        needBeam(beam);
        needHours(from, to);
        need(to - from < ODDS_HOURS && isWithin(q, 0, 16));
        needWhat(what, 1);
        prepareTrial();
        int x = now.beams.x[beam];
        trialGround.cover(0);
        for (int hour = from; hour <= to; hour++) {
            if (!trialGround.holdsUp(now.beams, beam, x, hour)) {
                return inLeastTerms(0, 1, what);
            }
        }
        long above = 1;
        long below = 1;
        for (int hour = from; hour <= to; hour++) {
            trialGround.cover(1 << hour);
            if (!trialGround.holdsUp(now.beams, beam, x, hour)) {
                above *= 16 - q;
                below *= 16;
            }
        }
        return inLeastTerms(above, below, what);
    }

    public int drawn(int seed, int q) throws IllegalArgumentException {
        need(isWithin(q, 0, 16));
        prepareTrial();
        goUnderDrawnClouds(seed, q);
        return trialRun.fallenBits;
    }

    public int span(int seed, int many, int q, int what, int beam) throws IllegalArgumentException {
        need(isWithin(many, 1, SEEDS) && isWithin(q, 0, 16));
        needWhat(what, 2);
        need(isWithin(beam, 0, now.beams.number - 1));
        prepareTrial();
        int fewest = BEAMS;
        int most = 0;
        int byHowMany = 0;
        for (int i = 0; i < many; i++) {
            goUnderDrawnClouds(seed + i, q);
            fewest = Math.min(fewest, trialRun.fallenNumber);
            most = Math.max(most, trialRun.fallenNumber);
            byHowMany += trialRun.fallenBits >> beam & 1;
        }
        switch (what) {
            case 0: return fewest;
            case 1: return most;
            default: return byHowMany;
        }
    }

    private void goUnderDrawnClouds(int seed, int q) {
        int clouds = now.cloudHours;
        int drawing = seed;
        for (int hour = 0; hour < HOURS; hour++) {
            drawing = drawing * 1103515245 + 12345;
            if ((drawing >>> 16 & 15) < q) {
                clouds |= 1 << hour;
            }
        }
        trialGround.cover(clouds);
        trialRun.go(trialGround, now.beams, moveLines, 0);
    }

    // ---- what the day offers

    public int places(int beam, int hour, int what) throws NoSuchElementException, IllegalArgumentException {
        needBeam(beam);
        needHour(hour);
        needWhat(what, 2);
        refresh();
        long places = ground.placesFor(now.beams, beam, hour);
        if (what == 0) {
            return Long.bitCount(places);
        }
        if (places == 0) {
            return NONE;
        }
        return what == 1 ? Long.numberOfTrailingZeros(places) : 63 - Long.numberOfLeadingZeros(places);
    }

    public int row(int hour, int what) throws IllegalArgumentException {
        needHour(hour);
        needWhat(what, 1);
        refresh();
        long bearing = ground.bearingCells(hour);
        int longest = 0;
        int first = NONE;
        int length = 0;
        for (int cell = 0; cell < now.wide; cell++) {
            length = (bearing >> cell & 1) == 1 ? length + 1 : 0;
            if (length > longest) {
                longest = length;
                first = cell - length + 1;
            }
        }
        return what == 0 ? longest : first;
    }

    public int best(int beam) throws NoSuchElementException {
        needBeam(beam);
        refresh();
        int bestHour = 0;
        int most = NONE;
        for (int hour = 0; hour < HOURS; hour++) {
            int number = Long.bitCount(ground.placesFor(now.beams, beam, hour));
            if (number > most) {
                most = number;
                bestHour = hour;
            }
        }
        return bestHour;
    }

    public int held(int beam) throws NoSuchElementException {
        needBeam(beam);
        refresh();
        int bits = 0;
        for (int hour = 0; hour < HOURS; hour++) {
            if (ground.holdsUp(now.beams, beam, now.beams.x[beam], hour)) {
                bits |= 1 << hour;
            }
        }
        return bits;
    }

    public int share(int post) throws NoSuchElementException {
        needPost(post);
        refresh();
        int number = 0;
        for (int hour = 0; hour < HOURS; hour++) {
            for (int cell = 0; cell < now.wide; cell++) {
                if (ground.shadesOn(cell, hour) == 1 << post) {
                    number++;
                }
            }
        }
        return number;
    }

    public int summed(int hour, int what) throws IllegalArgumentException {
        needHour(hour);
        needWhat(what, 1);
        refresh();
        int sum = 0;
        int crossed = 0;
        for (int cell = 0; cell < now.wide; cell++) {
            sum += ground.borneOn(cell, hour);
            if (Integer.bitCount(ground.shadesOn(cell, hour)) >= 2) {
                crossed++;
            }
        }
        return what == 0 ? sum : crossed;
    }

    public long slack(int cell, int hour, int what) throws IndexOutOfBoundsException, IllegalArgumentException {
        needCell(cell);
        needHour(hour);
        needWhat(what, 1);
        refresh();
        return inLeastTerms(ground.borneOn(cell, hour) * UNIT - run.restOn(now.beams, cell, hour), UNIT, what);
    }

    public int lighter(int beam) throws NoSuchElementException {
        needBeam(beam);
        refresh();
        int bestCell = NONE;
        int fewest = BEAMS + 1;
        for (int at = 0; at < now.beams.cells[beam]; at++) {
            int load = now.beams.loadOn(beam, at);
            if (load > 0) {
                now.beams.setLoad(beam, at, 0);
                trialRun.go(ground, now.beams, moveLines, 0);
                now.beams.setLoad(beam, at, load);
                if (trialRun.fallenNumber < fewest) {
                    fewest = trialRun.fallenNumber;
                    bestCell = at;
                }
            }
        }
        return bestCell;
    }

    public int lasts(int beam) throws NoSuchElementException {
        needBeam(beam);
        refresh();
        return run.fallHour[beam] == NONE ? HOURS : run.fallHour[beam];
    }

    public int heaviest() {
        int heaviestBeam = NONE;
        long most = 0;
        for (int b = 0; b < now.beams.number; b++) {
            long heavierEnd = Math.max(now.beams.onLeft[b], now.beams.onRight[b]);
            if (heavierEnd > most) {
                most = heavierEnd;
                heaviestBeam = b;
            }
        }
        return heaviestBeam;
    }

    public int bare(int from, int to) throws IllegalArgumentException {
        needHours(from, to);
        refresh();
        long bearing = 0;
        for (int hour = from; hour <= to; hour++) {
            bearing |= ground.bearingCells(hour);
        }
        return now.wide - Long.bitCount(bearing);
    }

    // ---- changes and images

    public int build(int post, int high) throws NoSuchElementException, IllegalArgumentException {
        needPost(post);
        need(isWithin(high, 1, HIGHEST));
        int was = now.postHigh[post];
        if (!changes.note(BUILT, post, 0, was)) {
            return -1;
        }
        now.postHigh[post] = high;
        stale = true;
        return was;
    }

    public int lay(int beam, int cell) throws NoSuchElementException, IllegalArgumentException {
        needBeam(beam);
        need(isWithin(cell, 0, now.wide - now.beams.cells[beam]));
        int was = now.beams.x[beam];
        if (!changes.note(LAID, beam, 0, was)) {
            return -1;
        }
        now.beams.x[beam] = cell;
        stale = true;
        return was;
    }

    public int put(int beam, int at, int load) throws NoSuchElementException, IllegalArgumentException {
        needBeam(beam);
        need(isWithin(at, 0, now.beams.cells[beam] - 1) && isWithin(load, 0, 99));
        int was = now.beams.loadOn(beam, at);
        if (!changes.note(LOADED, beam, at, was)) {
            return -1;
        }
        now.beams.setLoad(beam, at, load);
        stale = true;
        return was;
    }

    public int undo() {
        if (changes.number == 0) {
            return -1;
        }
        changes.takeBack(now);
        stale = true;
        return changes.number;
    }

    public int image() {
        if (imageCount >= IMAGES) {
            return -1;
        }
        images[imageCount].keep(now, today, changes);
        imageCount++;
        return imageCount;
    }

    public int restore() {
        if (imageCount <= 0) {
            return -1;
        }
        imageCount--;
        images[imageCount].giveBack(now, changes);
        today = images[imageCount].day;
        stale = true;
        return imageCount;
    }

    public int status(int what) {
        return what >= 0 && what < refused.length ? refused[what] : NONE;
    }

    public int count(int what) {
        switch (what) {
            case 0: return imageCount;
            case 1: return tape.size;
            case 2: return changes.number;
            default: return NONE;
        }
    }

    // ---- the day as it is

    private void refresh() {
        if (stale) {
            ground.takeStreet(now, law, now.moonOf(today));
            ground.settle(now.cloudHours);
            run.go(ground, now.beams, moveLines, 0);
            stale = false;
        }
    }

    private void prepareTrial() {
        trialGround.takeStreet(now, law, now.moonOf(today));
        trialGround.settle(now.cloudHours);
    }

    // ---- refusals

    private void needCell(int cell) {
        if (!isWithin(cell, 0, now.wide - 1)) {
            refused[0]++;
            throw new IndexOutOfBoundsException("no such cell");
        }
    }

    private void needPost(int post) {
        if (!isWithin(post, 0, now.posts - 1)) {
            refused[1]++;
            throw new NoSuchElementException("no such post");
        }
    }

    private void needBeam(int beam) {
        if (!isWithin(beam, 0, now.beams.number - 1)) {
            refused[1]++;
            throw new NoSuchElementException("no such beam");
        }
    }

    private void needHour(int hour) {
        need(isWithin(hour, 0, HOURS - 1));
    }

    private void needHours(int from, int to) {
        need(from >= 0 && from <= to && to < HOURS);
    }

    private void needDay(int day) {
        need(isWithin(day, 0, DAYS - 1));
    }

    private void needWhat(int what, int most) {
        need(isWithin(what, 0, most));
    }

    private void need(boolean fits) {
        if (!fits) {
            refused[2]++;
            throw new IllegalArgumentException("an argument is none such");
        }
    }

    // ---- arithmetic

    private static boolean isWithin(int value, int low, int high) {
        return value >= low && value <= high;
    }

    private static long spread(long cells, int reach) {
        long wider = cells;
        for (int off = 1; off <= reach; off++) {
            wider |= cells << off | cells >>> off;
        }
        return wider;
    }

    private static long inLeastTerms(long above, long below, int what) {
        long common = commonDivisor(Math.abs(above), below);
        if (common <= 0) {
            return 0;
        }
        return what == 0 ? above / common : below / common;
    }

    private static long commonDivisor(long one, long other) {
        long a = one;
        long b = other;
        for (int i = 0; i < 200 && b != 0; i++) {
            long rest = a % b;
            a = b;
            b = rest;
        }
        return a;
    }

    /** The bytes that were fed, and the reading of a text at their beginning. */
    private static final class Tape {
        private final byte[] bytes = new byte[TAPE_BYTES];
        private int size;
        private int end;
        private int at;
        private int start;
        private int faultKind;
        private int faultPlace = NONE;

        boolean hasRoom() {
            return size + FED_BYTES <= TAPE_BYTES;
        }

        void add(int number) {
            for (int shift = 24; shift >= 0; shift -= 8) {
                if (size < TAPE_BYTES) {
                    bytes[size] = (byte) (number >>> shift);
                    size++;
                }
            }
        }

        void open(int n) {
            end = Math.min(n, TAPE_BYTES);
            size = 0;
            at = 0;
            start = 0;
            faultKind = 0;
            faultPlace = NONE;
        }

        boolean failed() {
            return faultKind != 0;
        }

        int answer() {
            return faultKind - FAULT_SHIFT;
        }

        /** The fault is at the first byte of what was read last; a later one does not count. */
        void fail(int kind) {
            if (faultKind == 0) {
                faultKind = kind;
                faultPlace = start;
            }
        }

        /** What is seen next becomes what was read last, so that a fault lies at it. */
        private void skipBlanks() {
            while (at < end && bytes[at] == ' ') {
                at++;
            }
            start = at;
        }

        private boolean isAt(char low, char high) {
            return at < end && bytes[at] >= low && bytes[at] <= high;
        }

        boolean goesOn() {
            if (faultKind != 0) {
                return false;
            }
            skipBlanks();
            return at < end;
        }

        boolean sees(char sign) {
            if (faultKind != 0) {
                return false;
            }
            skipBlanks();
            return isAt(sign, sign);
        }

        boolean seesDigit() {
            if (faultKind != 0) {
                return false;
            }
            skipBlanks();
            return isAt('0', '9');
        }

        void takeSign(char sign) {
            if (faultKind != 0) {
                return;
            }
            skipBlanks();
            if (isAt(sign, sign)) {
                at++;
            } else {
                fail(OUT_OF_PLACE);
            }
        }

        /** Answers low behind a fault, so that what is made of it stays within bounds. */
        int takeNumber(int low, int high) {
            if (faultKind != 0) {
                return low;
            }
            skipBlanks();
            int value = 0;
            while (at < end && isAt('0', '9')) {
                value = Math.min(value * 10 + bytes[at] - '0', MORE_THAN_ALL);
                at++;
            }
            if (at == start) {
                fail(OUT_OF_PLACE);
                return low;
            }
            if (!isWithin(value, low, high)) {
                fail(NO_SUCH_NUMBER);
                return low;
            }
            return value;
        }

        void takeWord() {
            if (faultKind != 0) {
                return;
            }
            skipBlanks();
            while (at < end && isAt('a', 'z')) {
                at++;
            }
        }

        boolean isWord(String word) {
            if (at - start != word.length()) {
                return false;
            }
            for (int i = 0; i < word.length(); i++) {
                if (start + i >= end || bytes[start + i] != word.charAt(i)) {
                    return false;
                }
            }
            return true;
        }
    }

    /** Beams as told, and what each puts on its ends. */
    private static final class Beams {
        private final int[] x = new int[BEAMS];
        private final int[] cells = new int[BEAMS];
        private final int[] heavy = new int[BEAMS];
        private final int[] loads = new int[BEAMS * LONGEST];
        private final long[] onLeft = new long[BEAMS];
        private final long[] onRight = new long[BEAMS];
        private int number;

        void clear() {
            number = 0;
            Arrays.fill(loads, 0);
        }

        void add(int left, int length, int weight) {
            if (number < BEAMS) {
                x[number] = left;
                cells[number] = length;
                heavy[number] = weight;
                weigh(number);
                number++;
            }
        }

        int loadOn(int beam, int at) {
            return isCell(beam, at) ? loads[beam * LONGEST + at] : 0;
        }

        void setLoad(int beam, int at, int load) {
            if (isCell(beam, at)) {
                loads[beam * LONGEST + at] = load;
                weigh(beam);
            }
        }

        private boolean isCell(int beam, int at) {
            return beam >= 0 && beam < BEAMS && at >= 0 && at < LONGEST;
        }

        int allOf(int beam) {
            int all = 0;
            for (int at = 0; at < cells[beam]; at++) {
                all += heavy[beam] + loadOn(beam, at);
            }
            return all;
        }

        int rightEnd(int beam, int left) {
            return left + cells[beam] - 1;
        }

        void weigh(int beam) {
            int steps = cells[beam] - 1;
            if (steps <= 0) {
                return;
            }
            long part = UNIT / steps;
            long left = 0;
            long right = 0;
            for (int at = 0; at <= steps && at < LONGEST; at++) {
                long weight = heavy[beam] + loads[beam * LONGEST + at];
                left += weight * (steps - at);
                right += weight * at;
            }
            onLeft[beam] = left * part;
            onRight[beam] = right * part;
        }
    }

    /** What the text of a street tells. */
    private static final class Street {
        private static final int CLAUSES = 60;
        private static final int UNKNOWN = 0;
        private static final int WIDE = 1;
        private static final int POST = 2;
        private static final int SUNS = 3;
        private static final int DUSK = 4;
        private static final int MOON_CLAUSE = 5;
        private static final int CLOUD = 6;
        private static final int LAMP = 7;
        private static final int BEAM = 8;
        private static final int LOAD = 9;

        private final int[] postX = new int[POSTS];
        private final int[] postHigh = new int[POSTS];
        private final int[] sunLong = new int[HOURS];
        private final int[] sunWay = new int[HOURS];
        private final int[] moonBy = new int[MOONS];
        private final int[] moonLeft = new int[MOONS];
        private final int[] moonLong = new int[MOONS];
        private final Beams beams = new Beams();
        private int wide;
        private int dusk;
        private int posts;
        private int suns;
        private int moons;
        private int clouds;
        private int lamps;
        private int cloudHours;
        private long lampCells;

        Street() {
            clear();
        }

        void clear() {
            wide = 20;
            dusk = HOURS;
            posts = 0;
            suns = 0;
            moons = 0;
            clouds = 0;
            lamps = 0;
            cloudHours = 0;
            lampCells = 0;
            Arrays.fill(sunLong, NONE);
            beams.clear();
        }

        boolean hasPost(int cell) {
            for (int p = 0; p < posts; p++) {
                if (postX[p] == cell) {
                    return true;
                }
            }
            return false;
        }

        int moonOf(int day) {
            for (int m = 0; m < moons; m++) {
                if (moonBy[m] > 0 && day % moonBy[m] == moonLeft[m]) {
                    return m;
                }
            }
            return NONE;
        }

        /** The hour whose sun counts in an hour; NONE, if there is no sun. */
        int sunOf(int hour) {
            if (hour >= dusk || hour >= HOURS) {
                return NONE;
            }
            int at = hour;
            while (at >= 0 && sunLong[at] == NONE) {
                at--;
            }
            return at;
        }

        void read(Tape text) {
            clear();
            for (int before = 0; before <= CLAUSES && text.goesOn(); before++) {
                readClause(text, before);
            }
        }

        private void readClause(Tape text, int before) {
            text.takeWord();
            int kind = kindOf(text);
            if (kind == UNKNOWN) {
                text.fail(OUT_OF_PLACE);
            } else if (before >= CLAUSES || isFull(kind)) {
                text.fail(TOO_MANY);
            } else if (kind == WIDE && before > 0) {
                text.fail(WIDE_TOO_LATE);
            }
            if (!text.failed()) {
                readNumbers(text, kind);
                text.takeSign(';');
            }
        }

        private static int kindOf(Tape text) {
            if (text.isWord("wide")) {
                return WIDE;
            }
            if (text.isWord("post")) {
                return POST;
            }
            if (text.isWord("sun")) {
                return SUNS;
            }
            if (text.isWord("dusk")) {
                return DUSK;
            }
            if (text.isWord("moon")) {
                return MOON_CLAUSE;
            }
            if (text.isWord("cloud")) {
                return CLOUD;
            }
            if (text.isWord("lamp")) {
                return LAMP;
            }
            if (text.isWord("beam")) {
                return BEAM;
            }
            return text.isWord("load") ? LOAD : UNKNOWN;
        }

        private boolean isFull(int kind) {
            switch (kind) {
                case POST: return posts >= POSTS;
                case SUNS: return suns >= 12;
                case MOON_CLAUSE: return moons >= MOONS;
                case CLOUD: return clouds >= 6;
                case LAMP: return lamps >= 6;
                case BEAM: return beams.number >= BEAMS;
                default: return false;
            }
        }

        private void readNumbers(Tape text, int kind) {
            switch (kind) {
                case WIDE:
                    wide = text.takeNumber(4, CELLS);
                    break;
                case POST:
                    readPost(text);
                    break;
                case SUNS:
                    readSun(text);
                    break;
                case DUSK:
                    dusk = text.takeNumber(1, HOURS);
                    break;
                case MOON_CLAUSE:
                    readMoon(text);
                    break;
                case CLOUD:
                    readCloud(text);
                    break;
                case LAMP:
                    readLamp(text);
                    break;
                case BEAM:
                    readBeam(text);
                    break;
                default:
                    readLoad(text);
                    break;
            }
        }

        private void readPost(Tape text) {
            int x = text.takeNumber(0, wide - 1);
            if (hasPost(x)) {
                text.fail(NO_SUCH_NUMBER);
            }
            int high = text.takeNumber(1, HIGHEST);
            postX[posts] = x;
            postHigh[posts] = high;
            posts++;
        }

        private void readSun(Tape text) {
            int from = text.takeNumber(0, HOURS - 1);
            sunWay[from] = text.takeNumber(0, 1);
            sunLong[from] = text.takeNumber(0, 99);
            suns++;
        }

        private void readMoon(Tape text) {
            int by = text.takeNumber(1, 60);
            moonBy[moons] = by;
            moonLeft[moons] = text.takeNumber(0, by - 1);
            moonLong[moons] = text.takeNumber(1, 99);
            moons++;
        }

        private void readCloud(Tape text) {
            int from = text.takeNumber(0, HOURS - 1);
            int to = text.takeNumber(from, HOURS - 1);
            for (int hour = from; hour <= to; hour++) {
                cloudHours |= 1 << hour;
            }
            clouds++;
        }

        private void readLamp(Tape text) {
            int x = text.takeNumber(0, wide - 1);
            lampCells |= spread(1L << x, text.takeNumber(0, 9));
            lamps++;
        }

        private void readBeam(Tape text) {
            int x = text.takeNumber(0, wide - 1);
            int length = text.takeNumber(2, Math.min(LONGEST, wide - x));
            beams.add(x, length, text.takeNumber(1, 9));
        }

        private void readLoad(Tape text) {
            int beam = text.takeNumber(0, beams.number - 1);
            int at = text.takeNumber(0, beams.cells[beam] - 1);
            beams.setLoad(beam, at, text.takeNumber(0, 99));
        }
    }

    /** How much shade bears: the law's text as a row of steps on a stack. */
    private static final class Law {
        private static final int NUMBER = 0;
        private static final int SHADES = 1;
        private static final int TALL = 2;
        private static final int HOUR = 3;
        private static final int LAMP = 4;
        private static final int PLUS = 5;
        private static final int MINUS = 6;
        private static final int TIMES = 7;
        private static final int BY = 8;
        private static final int LEAST = 9;
        private static final int MOST = 10;
        private static final int UNKNOWN = 11;
        private static final int OPEN = 6;

        private final int[] step = new int[LAW_BYTES];
        private final int[] number = new int[LAW_BYTES];
        private final int[] stack = new int[LAW_BYTES];
        private int steps;

        Law() {
            setPlain();
        }

        void setPlain() {
            steps = 0;
            add(SHADES, 0);
            add(NUMBER, 20);
            add(TIMES, 0);
        }

        void copyFrom(Law other) {
            steps = other.steps;
            System.arraycopy(other.step, 0, step, 0, LAW_BYTES);
            System.arraycopy(other.number, 0, number, 0, LAW_BYTES);
        }

        private void add(int what, int value) {
            if (steps < LAW_BYTES) {
                step[steps] = what;
                number[steps] = value;
                steps++;
            }
        }

        void read(Tape text) {
            steps = 0;
            readSum(text, 0);
            if (text.goesOn()) {
                text.fail(OUT_OF_PLACE);
            }
        }

        private void readSum(Tape text, int open) {
            readProduct(text, open);
            for (int i = 0; i < LAW_BYTES && (text.sees('+') || text.sees('-')); i++) {
                int sign = text.sees('+') ? PLUS : MINUS;
                text.takeSign(sign == PLUS ? '+' : '-');
                readProduct(text, open);
                add(sign, 0);
            }
        }

        private void readProduct(Tape text, int open) {
            readUnit(text, open);
            for (int i = 0; i < LAW_BYTES && (text.sees('*') || text.sees('/')); i++) {
                int sign = text.sees('*') ? TIMES : BY;
                text.takeSign(sign == TIMES ? '*' : '/');
                readUnit(text, open);
                add(sign, 0);
            }
        }

        private void readUnit(Tape text, int open) {
            if (text.failed()) {
                return;
            }
            if (text.seesDigit()) {
                add(NUMBER, text.takeNumber(0, 999));
                return;
            }
            boolean bracket = text.sees('(');
            int what = NUMBER;
            if (!bracket) {
                text.takeWord();
                what = wordOf(text);
            }
            if (what == UNKNOWN) {
                text.fail(OUT_OF_PLACE);
            } else if (bracket || what >= LEAST) {
                if (open >= OPEN) {
                    text.fail(TOO_MANY);
                    return;
                }
                text.takeSign(bracket ? '(' : '[');
                readSum(text, open + 1);
                if (!bracket) {
                    text.takeSign(',');
                    readSum(text, open + 1);
                }
                text.takeSign(bracket ? ')' : ']');
            }
            if (!bracket) {
                add(what, 0);
            }
        }

        private static int wordOf(Tape text) {
            if (text.isWord("shades")) {
                return SHADES;
            }
            if (text.isWord("tall")) {
                return TALL;
            }
            if (text.isWord("hour")) {
                return HOUR;
            }
            if (text.isWord("lamp")) {
                return LAMP;
            }
            if (text.isWord("least")) {
                return LEAST;
            }
            return text.isWord("most") ? MOST : UNKNOWN;
        }

        int borne(int shades, int tall, int hour, int lamp) {
            if (shades == 0) {
                return 0;
            }
            int height = 0;
            for (int i = 0; i < steps; i++) {
                if (step[i] >= PLUS && height >= 2) {
                    height--;
                    int left = stack[height - 1];
                    int right = stack[height];
                    switch (step[i]) {
                        case PLUS: stack[height - 1] = left + right; break;
                        case MINUS: stack[height - 1] = left - right; break;
                        case TIMES: stack[height - 1] = left * right; break;
                        case BY: stack[height - 1] = right == 0 ? 0 : left / right; break;
                        case LEAST: stack[height - 1] = left < right ? left : right; break;
                        default: stack[height - 1] = left > right ? left : right; break;
                    }
                } else if (height < LAW_BYTES) {
                    switch (step[i]) {
                        case SHADES: stack[height] = shades; break;
                        case TALL: stack[height] = tall; break;
                        case HOUR: stack[height] = hour; break;
                        case LAMP: stack[height] = lamp; break;
                        default: stack[height] = number[i]; break;
                    }
                    height++;
                }
            }
            int value = stack[0];
            return value < 0 ? 0 : value > SOLID ? SOLID : value;
        }
    }

    /** Rows of two or three numbers: moves (hour, beam, cell) or a book (beam, hour). */
    private static final class Lines {
        private final int[] first = new int[MOVES];
        private final int[] second = new int[MOVES];
        private final int[] third = new int[MOVES];
        private int number;

        void copyFrom(Lines other) {
            number = other.number;
            System.arraycopy(other.first, 0, first, 0, MOVES);
            System.arraycopy(other.second, 0, second, 0, MOVES);
            System.arraycopy(other.third, 0, third, 0, MOVES);
        }

        void readMoves(Tape text, Street street) {
            number = 0;
            for (int i = 0; i <= MOVES && text.goesOn(); i++) {
                int hour = text.takeNumber(0, HOURS - 1);
                if (i >= MOVES) {
                    text.fail(TOO_MANY);
                }
                int beam = text.takeNumber(0, street.beams.number - 1);
                int cell = text.takeNumber(0, street.wide - street.beams.cells[beam]);
                text.takeSign(';');
                add(hour, beam, cell);
            }
        }

        void readBook(Tape text, int beams) {
            number = 0;
            for (int i = 0; i <= BOOK_LINES && text.goesOn(); i++) {
                int beam = text.takeNumber(0, beams - 1);
                if (i >= BOOK_LINES) {
                    text.fail(TOO_MANY);
                }
                int hour = text.takeNumber(0, HOURS);
                text.takeSign(';');
                add(beam, hour, 0);
            }
        }

        private void add(int one, int two, int three) {
            if (number < MOVES) {
                first[number] = one;
                second[number] = two;
                third[number] = three;
                number++;
            }
        }
    }

    /** Light, shadows and what cells bear in the hours of one day. */
    private static final class Ground {
        private final int[] postX = new int[TRIED_POSTS];
        private final int[] postHigh = new int[TRIED_POSTS];
        private final int[] lightKind = new int[HOURS];
        private final int[] lightLong = new int[HOURS];
        private final int[] lightWay = new int[HOURS];
        private final long[] clearShadow = new long[HOURS * TRIED_POSTS];
        private final int[] shadesFrom = new int[HOURS];
        private final int[] known = new int[2 * HOURS * CELLS];
        private Law law;
        private int wide;
        private int posts;
        private int cloudHours;
        private long postCells;
        private long lampCells;

        void takeStreet(Street street, Law streetLaw, int moon) {
            law = streetLaw;
            wide = street.wide;
            lampCells = street.lampCells;
            posts = 0;
            postCells = 0;
            for (int p = 0; p < street.posts; p++) {
                addPost(street.postX[p], street.postHigh[p]);
            }
            for (int hour = 0; hour < HOURS; hour++) {
                setLight(street, moon, hour);
            }
        }

        private void setLight(Street street, int moon, int hour) {
            int sun = street.sunOf(hour);
            lightKind[hour] = 0;
            lightLong[hour] = 0;
            lightWay[hour] = 0;
            if (isWithin(sun, 0, HOURS - 1)) {
                lightKind[hour] = SUN;
                lightLong[hour] = street.sunLong[sun];
                lightWay[hour] = street.sunWay[sun];
            } else if (isWithin(moon, 0, MOONS - 1)) {
                lightKind[hour] = MOON;
                lightLong[hour] = street.moonLong[moon];
                lightWay[hour] = RIGHTWARD;
            }
        }

        void addPost(int x, int high) {
            if (posts < TRIED_POSTS) {
                postX[posts] = x;
                postHigh[posts] = high;
                postCells |= 1L << x;
                posts++;
            }
        }

        void dropPost(int post) {
            if (!isWithin(post, 0, posts - 1)) {
                return;
            }
            postCells &= ~(1L << postX[post]);
            posts--;
            postX[post] = postX[posts];
            postHigh[post] = postHigh[posts];
        }

        void settle(int clouds) {
            for (int hour = 0; hour < HOURS; hour++) {
                for (int post = 0; post < posts; post++) {
                    clearShadow[hour * TRIED_POSTS + post] = shadowOf(post, hour);
                }
            }
            cover(clouds);
        }

        /** The cells on which the shadow lies without clouds, as bits. */
        private long shadowOf(int post, int hour) {
            int length = postHigh[post] * lightLong[hour] / 10;
            int x = postX[post];
            boolean toRight = lightWay[hour] == RIGHTWARD;
            int first = toRight ? x + 1 : Math.max(0, x - length);
            int last = toRight ? Math.min(wide - 1, x + length) : x - 1;
            return first > last ? 0 : (1L << last - first + 1) - 1 << first;
        }

        /** Shadows stay as they are without clouds; only the hour they are taken from changes. */
        void cover(int clouds) {
            cloudHours = clouds;
            int from = NONE;
            for (int hour = 0; hour < HOURS; hour++) {
                if (!isCloudy(hour)) {
                    from = hour;
                }
                shadesFrom[hour] = from;
            }
            Arrays.fill(known, NONE);
        }

        boolean isCloudy(int hour) {
            return (cloudHours >> hour & 1) == 1;
        }

        private boolean isLampLit(int cell) {
            return (lampCells >> cell & 1) == 1;
        }

        /** The posts whose shadow lies on a cell, as bits. */
        int shadesOn(int cell, int hour) {
            return shadesIf(cell, hour, isLampLit(cell));
        }

        private int shadesIf(int cell, int hour, boolean lamp) {
            int from = shadesFrom[hour];
            boolean cloudy = (cloudHours >> hour & 1) == 1;
            if (from < 0 || cloudy && !lamp) {
                return 0;
            }
            int shades = 0;
            for (int post = 0; post < posts; post++) {
                shades |= (int) (clearShadow[from * TRIED_POSTS + post] >> cell & 1) << post;
            }
            return shades;
        }

        int borneOn(int cell, int hour) {
            return borneIf(cell, hour, isLampLit(cell));
        }

        /** What is once worked out is kept until clouds or posts change: the law may be long. */
        int borneIf(int cell, int hour, boolean lamp) {
            if ((postCells >> cell & 1) == 1) {
                return SOLID;
            }
            int index = ((lamp ? HOURS : 0) + hour) * CELLS + cell;
            if (known[index] == NONE) {
                int shades = shadesIf(cell, hour, lamp);
                known[index] = law == null ? 0
                        : law.borne(Integer.bitCount(shades), tallest(shades), hour, lamp ? 1 : 0);
            }
            return known[index];
        }

        private int tallest(int shades) {
            int tall = 0;
            for (int post = 0; post < posts; post++) {
                if ((shades >> post & 1) == 1 && postHigh[post] > tall) {
                    tall = postHigh[post];
                }
            }
            return tall;
        }

        long bearingCells(int hour) {
            long cells = 0;
            for (int cell = 0; cell < wide; cell++) {
                if (borneOn(cell, hour) > 0) {
                    cells |= 1L << cell;
                }
            }
            return cells;
        }

        /** Whether a beam stands alone. */
        boolean holdsUp(Beams beams, int beam, int left, int hour) {
            int right = beams.rightEnd(beam, left);
            return left >= 0 && right < wide
                    && borneOn(left, hour) * UNIT >= beams.onLeft[beam]
                    && borneOn(right, hour) * UNIT >= beams.onRight[beam];
        }

        long placesFor(Beams beams, int beam, int hour) {
            long places = 0;
            for (int left = 0; left + beams.cells[beam] <= wide; left++) {
                if (holdsUp(beams, beam, left, hour)) {
                    places |= 1L << left;
                }
            }
            return places;
        }
    }

    /** One day gone through, hour by hour. */
    private static final class DayRun {
        private final int[] place = new int[BEAMS];
        private final int[] fallHour = new int[BEAMS];
        private final int[] fallOrder = new int[BEAMS];
        private final int[] placesBehind = new int[HOURS * BEAMS];
        private final long[] rest = new long[CELLS];
        private int fallenNumber;
        private int fallenBits;

        /** Ends early when a watched beam falls: then nothing but that it fell is asked. */
        void go(Ground ground, Beams beams, Lines moves, int watched) {
            fallenNumber = 0;
            fallenBits = 0;
            for (int b = 0; b < BEAMS; b++) {
                place[b] = b < beams.number ? beams.x[b] : NONE;
                fallHour[b] = NONE;
            }
            for (int hour = 0; hour < HOURS && (fallenBits & watched) == 0; hour++) {
                moveBeams(moves, hour);
                weighCells(beams);
                dropBeams(ground, beams, hour);
                System.arraycopy(place, 0, placesBehind, hour * BEAMS, BEAMS);
            }
        }

        private void moveBeams(Lines moves, int hour) {
            for (int i = 0; i < moves.number; i++) {
                int beam = moves.second[i];
                if (moves.first[i] == hour && place[beam] != NONE) {
                    place[beam] = moves.third[i];
                }
            }
        }

        private void weighCells(Beams beams) {
            Arrays.fill(rest, 0);
            for (int b = 0; b < beams.number; b++) {
                if (place[b] != NONE) {
                    addWeight(beams, b, 1);
                }
            }
        }

        private void addWeight(Beams beams, int beam, int times) {
            int right = beams.rightEnd(beam, place[beam]);
            if (place[beam] >= 0 && right < CELLS) {
                rest[place[beam]] += times * beams.onLeft[beam];
                rest[right] += times * beams.onRight[beam];
            }
        }

        /** One pass is enough: a fall only takes weight away, so no beam passed over is too heavy later. */
        private void dropBeams(Ground ground, Beams beams, int hour) {
            for (int b = 0; b < beams.number; b++) {
                int left = place[b];
                int right = beams.rightEnd(b, left);
                if (left >= 0 && right < CELLS
                        && (rest[left] > ground.borneOn(left, hour) * UNIT
                        || rest[right] > ground.borneOn(right, hour) * UNIT)) {
                    addWeight(beams, b, -1);
                    place[b] = NONE;
                    fallHour[b] = hour;
                    fallOrder[fallenNumber] = b;
                    fallenNumber++;
                    fallenBits |= 1 << b;
                }
            }
        }

        int placeBehind(int beam, int hour) {
            return placesBehind[hour * BEAMS + beam];
        }

        long restOn(Beams beams, int cell, int hour) {
            long sum = 0;
            for (int b = 0; b < beams.number; b++) {
                int left = placeBehind(b, hour);
                if (left != NONE) {
                    sum += left == cell ? beams.onLeft[b] : 0;
                    sum += beams.rightEnd(b, left) == cell ? beams.onRight[b] : 0;
                }
            }
            return sum;
        }
    }

    /** Changes that can be undone, the latest last. */
    private static final class Changes {
        private final int[] kind = new int[CHANGES];
        private final int[] which = new int[CHANGES];
        private final int[] at = new int[CHANGES];
        private final int[] was = new int[CHANGES];
        private int number;

        /** Whether there was room for it. */
        boolean note(int what, int changed, int place, int before) {
            if (number >= CHANGES) {
                return false;
            }
            kind[number] = what;
            which[number] = changed;
            at[number] = place;
            was[number] = before;
            number++;
            return true;
        }

        void takeBack(Street street) {
            if (number <= 0) {
                return;
            }
            number--;
            int changed = which[number];
            switch (kind[number]) {
                case BUILT:
                    street.postHigh[changed] = was[number];
                    break;
                case LAID:
                    street.beams.x[changed] = was[number];
                    break;
                default:
                    street.beams.setLoad(changed, at[number], was[number]);
                    break;
            }
        }

        void copyFrom(Changes other) {
            number = other.number;
            System.arraycopy(other.kind, 0, kind, 0, CHANGES);
            System.arraycopy(other.which, 0, which, 0, CHANGES);
            System.arraycopy(other.at, 0, at, 0, CHANGES);
            System.arraycopy(other.was, 0, was, 0, CHANGES);
        }
    }

    /** All of a street that calls can change. */
    private static final class Image {
        private final int[] high = new int[POSTS];
        private final int[] left = new int[BEAMS];
        private final int[] loads = new int[BEAMS * LONGEST];
        private final Changes changes = new Changes();
        private int day;

        void keep(Street street, int today, Changes noted) {
            System.arraycopy(street.postHigh, 0, high, 0, POSTS);
            System.arraycopy(street.beams.x, 0, left, 0, BEAMS);
            System.arraycopy(street.beams.loads, 0, loads, 0, BEAMS * LONGEST);
            changes.copyFrom(noted);
            day = today;
        }

        void giveBack(Street street, Changes noted) {
            System.arraycopy(high, 0, street.postHigh, 0, POSTS);
            System.arraycopy(left, 0, street.beams.x, 0, BEAMS);
            System.arraycopy(loads, 0, street.beams.loads, 0, BEAMS * LONGEST);
            for (int b = 0; b < street.beams.number; b++) {
                street.beams.weigh(b);
            }
            noted.copyFrom(changes);
        }
    }

    /** The least carrying that keeps one beam up: what is yet to be carried from each cell in each hour on. */
    private static final class Carrier {
        private final int[] cost = new int[HOURS * CELLS];
        private int start;
        private int lefts;
        private int from;

        void plan(Ground ground, Beams beams, int beam, int first, int last) {
            start = beams.x[beam];
            lefts = Math.max(0, ground.wide - beams.cells[beam] + 1);
            from = first;
            for (int hour = last; hour >= first; hour--) {
                for (int left = 0; left < lefts; left++) {
                    int onwards = hour == last ? 0 : cheapest(left, hour + 1);
                    boolean stands = ground.holdsUp(beams, beam, left, hour);
                    cost[hour * CELLS + left] = stands ? onwards : MORE_THAN_ALL;
                }
            }
        }

        private int costBy(int at, int left, int hour) {
            return Math.min(MORE_THAN_ALL, Math.abs(at - left) + cost[hour * CELLS + left]);
        }

        private int cheapest(int at, int hour) {
            int least = MORE_THAN_ALL;
            for (int left = 0; left < lefts; left++) {
                least = Math.min(least, costBy(at, left, hour));
            }
            return least;
        }

        int fewest() {
            int least = cheapest(start, from);
            return least >= MORE_THAN_ALL ? NONE : least;
        }

        int placeIn(int asked) {
            if (fewest() == NONE) {
                return NONE;
            }
            int at = start;
            for (int hour = from; hour <= asked && hour < HOURS; hour++) {
                at = firstCheapest(at, hour);
            }
            return at;
        }

        private int firstCheapest(int at, int hour) {
            int least = cheapest(at, hour);
            for (int left = 0; left < lefts; left++) {
                if (costBy(at, left, hour) == least) {
                    return left;
                }
            }
            return at;
        }
    }

    /** The cells on which one lamp more can matter. */
    private static final class Lamplighter {
        private final int[] cell = new int[CELLS];
        private final long[] reached = new long[CELLS];
        private final int[] picked = new int[MORE_LAMPS];
        private final int[] place = new int[BEAMS];
        private final long[] rest = new long[CELLS];
        private int number;
        private long neededLit;
        private long neededDark;

        /**
         * A lamp that changes nothing, or the same as one on an earlier cell, is in no first answer:
         * it could be left out, or put on the earlier cell.
         */
        void gather(Ground ground, Beams beams, Lines moves, int reach) {
            long changed = changedByLamps(ground, endCells(beams, moves) & ~ground.lampCells);
            number = 0;
            for (int at = 0; at < ground.wide; at++) {
                long gained = spread(1L << at, reach) & changed;
                if (gained != 0 && !isGathered(gained) && number < CELLS) {
                    cell[number] = at;
                    reached[number] = gained;
                    number++;
                }
            }
        }

        private boolean isGathered(long gained) {
            for (int i = 0; i < number; i++) {
                if (reached[i] == gained) {
                    return true;
                }
            }
            return false;
        }

        private static long endCells(Beams beams, Lines moves) {
            long ends = 0;
            for (int b = 0; b < beams.number; b++) {
                ends |= 1L << beams.x[b] | 1L << beams.rightEnd(b, beams.x[b]);
            }
            for (int i = 0; i < moves.number; i++) {
                ends |= 1L << moves.third[i] | 1L << beams.rightEnd(moves.second[i], moves.third[i]);
            }
            return ends;
        }

        private static long changedByLamps(Ground ground, long dark) {
            long changed = 0;
            for (int at = 0; at < ground.wide; at++) {
                if ((dark >> at & 1) == 1 && isChangedByLamp(ground, at)) {
                    changed |= 1L << at;
                }
            }
            return changed;
        }

        private static boolean isChangedByLamp(Ground ground, int at) {
            for (int hour = 0; hour < HOURS; hour++) {
                if (ground.borneIf(at, hour, true) != ground.borneIf(at, hour, false)) {
                    return true;
                }
            }
            return false;
        }

        /**
         * While the watched beams lie, at least their own weight rests where they are. So each of their end cells
         * needs a lamp, or none, in some hour, if it does not bear that otherwise: this spares most days from being
         * gone through.
         */
        void demand(Ground ground, Beams beams, Lines moves, int watched) {
            neededLit = 0;
            neededDark = 0;
            System.arraycopy(beams.x, 0, place, 0, BEAMS);
            for (int hour = 0; hour < HOURS; hour++) {
                for (int i = 0; i < moves.number; i++) {
                    if (moves.first[i] == hour) {
                        place[moves.second[i]] = moves.third[i];
                    }
                }
                weighWatched(beams, watched);
                for (int at = 0; at < ground.wide; at++) {
                    if (rest[at] > 0) {
                        neededLit |= ground.borneIf(at, hour, false) * UNIT < rest[at] ? 1L << at : 0;
                        neededDark |= ground.borneIf(at, hour, true) * UNIT < rest[at] ? 1L << at : 0;
                    }
                }
            }
        }

        private void weighWatched(Beams beams, int watched) {
            Arrays.fill(rest, 0);
            for (int b = 0; b < beams.number; b++) {
                if ((watched >> b & 1) == 1) {
                    rest[place[b]] += beams.onLeft[b];
                    rest[beams.rightEnd(b, place[b])] += beams.onRight[b];
                }
            }
        }

        boolean allows(long lit) {
            return (lit & neededLit) == neededLit && (lit & neededDark) == 0;
        }

        /** Picks are places in the row of cells, rising; false, if there are fewer cells than lamps. */
        boolean pickFirst(int lamps) {
            for (int i = 0; i < MORE_LAMPS; i++) {
                picked[i] = i;
            }
            return lamps <= number && lamps <= MORE_LAMPS;
        }

        /** The next pick, cell by cell; false behind the last one. */
        boolean pickNext(int lamps) {
            int moved = Math.min(lamps, MORE_LAMPS) - 1;
            while (moved >= 0 && picked[moved] >= number - lamps + moved) {
                moved--;
            }
            if (moved < 0) {
                return false;
            }
            picked[moved]++;
            for (int i = moved + 1; i < MORE_LAMPS; i++) {
                picked[i] = picked[i - 1] + 1;
            }
            return true;
        }

        /** The cells that are lit by the lamps told and those picked. */
        long litBy(int lamps, long told) {
            long lit = told;
            for (int i = 0; i < lamps && i < MORE_LAMPS; i++) {
                lit |= isPicked(i) ? reached[picked[i]] : 0;
            }
            return lit;
        }

        /** The cells picked as digits to the base 64. */
        int digits(int lamps) {
            int all = 0;
            for (int i = 0; i < lamps && i < MORE_LAMPS; i++) {
                all = all * 64 + (isPicked(i) ? cell[picked[i]] : 0);
            }
            return all;
        }

        private boolean isPicked(int i) {
            return isWithin(picked[i], 0, number - 1);
        }
    }
}
