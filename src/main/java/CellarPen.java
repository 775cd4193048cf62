/**
 * Pens for earthquakes in cellars. The words in capitals are those of the document (DOC.md, "Terms").
 * Rows of numbers are made once, in constructors, and used again by every call, so that a long run stays small.
 */
public final class CellarPen {
    public static final int NONE = -1;
    public static final int UNKNOWN = -1000000000;

    private static final int SIDE = 40;
    private static final int CELLS = 1600;
    private static final int MOST_CELLARS = 6;
    private static final int MOST_QUAKES = 16;
    private static final int MOST_SAMPLES = 200;
    private static final int MOST_MARKS = 40;
    private static final int MOST_BYTES = 600;
    private static final int MOST_LINES = 16;
    private static final int MOST_OPEN = 8;
    private static final int MOST_TIMES = 8;
    private static final int MOST_ENTRIES = 100;
    private static final int MOST_FELT = 100;
    private static final int ALL_CELLARS = 63;
    private static final int FARTHEST = 55;
    private static final int LATEST = 9999999;

    private final Chart chart;
    private final Cellar[] cellars;
    private int cellarCount;
    private final Ringing ringing;
    private final Burst lastBurst;
    private final RuleReader reader;
    private final Quake[] quakes;
    private int quakeCount;
    private int slowness;
    private int secondSlowness;
    private final TimeRow row;
    private final Catalogue catalogue0;
    private final Catalogue catalogue1;
    private final FeltList feltList;

    public CellarPen() {
        chart = new Chart();
        cellars = new Cellar[MOST_CELLARS];
        ringing = new Ringing();
        lastBurst = new Burst();
        reader = new RuleReader();
        quakes = new Quake[MOST_QUAKES];
        slowness = 10;
        secondSlowness = 17;
        row = new TimeRow();
        catalogue0 = new Catalogue();
        catalogue1 = new Catalogue();
        feltList = new FeltList();
    }

    // ---- 1. cellars and their pens

    public int cellar(int x, int y) {
        if (!isCell(x, y) || cellarCount >= MOST_CELLARS) {
            return NONE;
        }
        cellars[cellarCount] = new Cellar(x, y);
        cellarCount++;
        return cellarCount - 1;
    }

    public boolean pen(int c, int damp, int stiff, int limit) {
        Cellar cellar = cellarOf(c);
        if (cellar == null || !within(damp, 0, 63) || !within(stiff, 0, 63) || !within(limit, 10, 999)) {
            return false;
        }
        cellar.damp = damp;
        cellar.stiff = stiff;
        cellar.limit = limit;
        return true;
    }

    public int ground(int c, int g) {
        Cellar cellar = cellarOf(c);
        if (cellar == null || !within(g, -9999, 9999) || cellar.sampleCount >= MOST_SAMPLES) {
            return UNKNOWN;
        }
        int sample = cellar.step(g);
        cellar.tell(cellar.sampleCount, sample);
        return sample;
    }

    public boolean write(int c, int i, int v) {
        Cellar cellar = cellarOf(c);
        if (cellar == null || (v != UNKNOWN && !within(v, -999, 999))) {
            return false;
        }
        return cellar.tell(i, v);
    }

    public int paper(int c) {
        Cellar cellar = cellarOf(c);
        return cellar == null ? NONE : cellar.newPaper();
    }

    public int at(int c, int what) {
        Cellar cellar = cellarOf(c);
        if (cellar == null) {
            return UNKNOWN;
        }
        switch (what) {
            case 1000:
                return cellar.sampleCount;
            case 1001:
                return cellar.deflection;
            case 1002:
                return cellar.speed;
            case 1003:
                return cellar.clippedCount();
            case 1004:
                return cellar.missingCount();
            case 1005:
                return cellar.markCount;
            default:
                return cellar.sampleAt(what);
        }
    }

    public int back(int c, int i) {
        Cellar cellar = cellarOf(c);
        if (cellar == null || !within(i, 2, MOST_SAMPLES - 1) || !cellar.isReadable(i - 2, i)) {
            return UNKNOWN;
        }
        return cellar.readBack(i);
    }

    public int swing(int c, int from, int to, int what) {
        Cellar cellar = cellarOf(c);
        if (cellar == null || !within(from, 0, MOST_SAMPLES - 1) || from + 2 > to || !within(what, 0, 2)) {
            return NONE;
        }
        if (!cellar.isReadable(from, to)) {
            return NONE;
        }
        ringing.search(cellar, from, to);
        if (what == 0) {
            return ringing.coupleCount;
        }
        return what == 1 ? ringing.leastDamp : ringing.leastStiff;
    }

    // ---- 2. marks, clocks, bursts and the rules that tell them

    public boolean mark(int c, int sample, int minute) {
        Cellar cellar = cellarOf(c);
        return cellar != null && within(minute, 0, 9999) && cellar.press(sample, minute);
    }

    public boolean clock(int c, int t, int a, int b) {
        Cellar cellar = cellarOf(c);
        if (cellar == null || !within(t, 0, 999999) || !within(a, 500, 700) || !within(b, a, 700)) {
            return false;
        }
        cellar.clockStart = t;
        cellar.shortestMinute = a;
        cellar.longestMinute = b;
        return true;
    }

    public long time(int c, int sample, int what) {
        Cellar cellar = cellarOf(c);
        if (cellar == null || !within(what, 0, 2)) {
            return NONE;
        }
        int seconds = cellar.clockSeconds(sample);
        if (seconds == NONE || what == 2) {
            return seconds;
        }
        if (what == 0) {
            return cellar.clockStart + Math.floorDiv(seconds * cellar.shortestMinute, 60);
        }
        return cellar.clockStart + Math.floorDiv((seconds + 1) * cellar.longestMinute, 60);
    }

    public int first(int c, int threshold) {
        Cellar cellar = cellarOf(c);
        return cellar == null || !within(threshold, 0, 999) ? NONE : cellar.firstBeyond(threshold);
    }

    public int burst(int c, int a, int b, int what) {
        Cellar cellar = cellarOf(c);
        if (cellar == null || !lastBurst.measure(cellar, a, b)) {
            return NONE;
        }
        switch (what) {
            case 0:
                return lastBurst.fact(Burst.PEAK);
            case 1:
                return lastBurst.fact(Burst.CROSSINGS);
            case 2:
                return lastBurst.fact(Burst.RISE);
            case 3:
                return lastBurst.fact(Burst.CLIPPED);
            default:
                return NONE;
        }
    }

    public int kind(int c, int a, int b, int hour, int day) {
        Cellar cellar = cellarOf(c);
        if (cellar == null || !within(hour, 0, 23) || !within(day, 0, 6) || !lastBurst.measure(cellar, a, b)) {
            return NONE;
        }
        lastBurst.setWhen(hour, day);
        return reader.program.judge(lastBurst);
    }

    public int feed(int a, int b, int c, int d, int e) {
        if (reader.tapeLength + 20 > MOST_BYTES) {
            return NONE;
        }
        reader.append(a);
        reader.append(b);
        reader.append(c);
        reader.append(d);
        reader.append(e);
        return reader.tapeLength;
    }

    public boolean end(int n) {
        if (!within(n, 0, reader.tapeLength)) {
            return false;
        }
        reader.tapeLength = n;
        return true;
    }

    public int rules() {
        return reader.translate() ? reader.program.lineCount : NONE;
    }

    public int fault(int what) {
        if (what == 0) {
            return reader.faultNumber;
        }
        return what == 1 ? reader.faultPlace : NONE;
    }

    // ---- 3. waves, quakes, where they may have been and how the ground slid

    public boolean waves(int dp, int ds) {
        if (!within(dp, 1, 99) || !within(ds, 1, 99) || ds <= dp) {
            return false;
        }
        slowness = dp;
        secondSlowness = ds;
        return true;
    }

    public int quake() {
        if (quakeCount >= MOST_QUAKES) {
            return NONE;
        }
        quakes[quakeCount] = new Quake();
        quakeCount++;
        return quakeCount - 1;
    }

    public boolean read(int q, int c, int from, int to) {
        Quake quake = quakeOf(q);
        if (quake == null || cellarOf(c) == null || !isSpan(from, to)) {
            return false;
        }
        quake.readAnew(c, from, to);
        return true;
    }

    public boolean second(int q, int c, int from, int to) {
        Reading reading = readingOf(q, c);
        if (reading == null || (from != NONE && !isSpan(from, to))) {
            return false;
        }
        reading.secondFrom = from;
        reading.secondTo = to;
        return true;
    }

    public boolean beat(int q, int c, int beat, int peak) {
        Reading reading = readingOf(q, c);
        if (reading == null || !within(beat, -1, 1) || !within(peak, 0, 999999)) {
            return false;
        }
        reading.beat = beat;
        reading.peak = peak;
        return true;
    }

    public int fits(int q, int set, int what) {
        Quake quake = quakeOf(q);
        if (quake == null || !within(set, 1, ALL_CELLARS) || !within(what, 0, CELLS)) {
            return NONE;
        }
        return what == 0 ? countFitting(quake, set) : fittingCell(quake, set, what - 1);
    }

    public int fit(int q, int x, int y) {
        Quake quake = quakeOf(q);
        if (quake == null || !isCell(x, y)) {
            return NONE;
        }
        return isFitting(quake, ALL_CELLARS, x, y) ? 1 : 0;
    }

    public int wrong(int q) {
        Quake quake = quakeOf(q);
        if (quake == null || fittingCell(quake, ALL_CELLARS, 0) != NONE) {
            return NONE;
        }
        int found = NONE;
        for (int c = 0; c < cellarCount; c++) {
            // without a READING, leaving the CELLAR out changes nothing: still no CELL FITS
            boolean mends = quake.reading(c) != null && fittingCell(quake, ALL_CELLARS & ~(1 << c), 0) != NONE;
            if (mends && found != NONE) {
                return NONE;
            }
            if (mends) {
                found = c;
            }
        }
        return found;
    }

    public int slides(int q, int x, int y) {
        Quake quake = quakeOf(q);
        if (quake == null || !isCell(x, y)) {
            return NONE;
        }
        int agreeing = 15;
        for (int c = 0; c < cellarCount; c++) {
            Reading reading = quake.reading(c);
            Cellar cellar = cellarOf(c);
            if (reading == null || cellar == null || reading.beat == 0) {
                continue;
            }
            agreeing = agreeing & slidesOf(sectorOf(cellar.x - x, cellar.y - y), reading.beat);
        }
        return agreeing;
    }

    // ---- 4. sizes, habits, two quakes on one paper

    public int level(int v) {
        return v < 0 ? NONE : levelOf(v);
    }

    public boolean habit(int c, int v) {
        Cellar cellar = cellarOf(c);
        if (cellar == null || !within(v, -50, 50)) {
            return false;
        }
        cellar.habit = v;
        return true;
    }

    public int size(int q, int x, int y, int c) {
        Quake quake = quakeOf(q);
        if (quake == null || !isCell(x, y)) {
            return UNKNOWN;
        }
        if (c == NONE) {
            return meanSize(quake, x, y, NONE);
        }
        Cellar cellar = cellarOf(c);
        int bare = bareSize(quake, x, y, c);
        return cellar == null || bare == UNKNOWN ? UNKNOWN : bare + cellar.habit;
    }

    public boolean place(int q, int x, int y) {
        Quake quake = quakeOf(q);
        if (quake == null || !isCell(x, y)) {
            return false;
        }
        quake.placeX = x;
        quake.placeY = y;
        return true;
    }

    public int own(int c) {
        if (cellarOf(c) == null) {
            return UNKNOWN;
        }
        int sum = 0;
        int count = 0;
        for (int q = 0; q < quakeCount; q++) {
            int lack = lackOf(quakeOf(q), c);
            if (lack != UNKNOWN) {
                sum += lack;
                count++;
            }
        }
        return mean(sum, count);
    }

    public int pick(int t) {
        if (t == NONE) {
            row.timeCount = 0;
            return 0;
        }
        return row.append(t) ? row.timeCount : NONE - 1;
    }

    public int parted(int w) {
        return within(w, 0, 9999) ? row.waysToPart(w) : NONE;
    }

    public int couples(int d, int e, int u) {
        if (!within(d, 0, FARTHEST) || !within(e, 0, FARTHEST) || !within(u, 0, 999) || row.timeCount != 4) {
            return NONE;
        }
        int lag = secondSlowness - slowness;
        return row.waysToCouple(lag * d, lag * e, u);
    }

    // ---- 5. catalogues, blasts, what should have been felt

    public int entry(int k, int day, int hour, int cell, int size) {
        if (!within(k, 0, 1) || !within(day, 0, 9999) || !within(hour, 0, 23)) {
            return NONE;
        }
        if (!within(cell, 0, CELLS - 1) || !within(size, 0, 999)) {
            return NONE;
        }
        return (k == 0 ? catalogue0 : catalogue1).append(24 * day + hour, cell, size);
    }

    public int joined(int h, int r, int z) {
        if (!within(h, 0, 999) || !within(r, 0, FARTHEST) || !within(z, 0, 999)) {
            return NONE;
        }
        catalogue1.freeAll();
        int together = catalogue0.entryCount + catalogue1.entryCount;
        for (int i = 0; i < catalogue0.entryCount; i++) {
            if (takeSame(i, h, r, z)) {
                together--;
            }
        }
        return together;
    }

    public int quarries(int r, int n, int what) {
        if (!within(r, 0, FARTHEST) || !within(n, 1, MOST_ENTRIES) || !within(what, 0, 1)) {
            return NONE;
        }
        int count = 0;
        for (int cell = 0; cell < CELLS; cell++) {
            if (isQuarry(cell, r, n)) {
                if (what == 1) {
                    return cell;
                }
                count++;
            }
        }
        return what == 1 ? NONE : count;
    }

    public int felt(int cell, int entry, int size) {
        if (!within(cell, 0, CELLS - 1) || !within(entry, 0, catalogue0.entryCount - 1) || !within(size, 0, 999)) {
            return NONE;
        }
        return feltList.append(cell, entry, size) ? feltList.feltCount : NONE;
    }

    public int shaken(int what) {
        if (what == 0 || what == 1) {
            return strayed(what == 0);
        }
        if (!within(what, 10, 9 + feltList.feltCount)) {
            return UNKNOWN;
        }
        return foretold(what - 10);
    }

    public int look(int what) {
        switch (what) {
            case 0:
                return cellarCount;
            case 1:
                return quakeCount;
            case 2:
                return reader.program.lineCount;
            case 3:
                return catalogue0.entryCount + catalogue1.entryCount;
            case 4:
                return row.timeCount;
            case 5:
                return feltList.feltCount;
            default:
                return NONE;
        }
    }

    // ---- what the calls share

    private static boolean within(int value, int least, int most) {
        return value >= least && value <= most;
    }

    private static boolean isCell(int x, int y) {
        return within(x, 0, SIDE - 1) && within(y, 0, SIDE - 1);
    }

    private static boolean isSpan(int from, int to) {
        return within(from, 0, LATEST) && within(to, from, LATEST);
    }

    private static int mean(int sum, int count) {
        return count == 0 ? UNKNOWN : Math.floorDiv(sum, count);
    }

    private Cellar cellarOf(int c) {
        return within(c, 0, cellarCount - 1) && c < cellars.length ? cellars[c] : null;
    }

    private Quake quakeOf(int q) {
        return within(q, 0, quakeCount - 1) && q < quakes.length ? quakes[q] : null;
    }

    private Reading readingOf(int q, int c) {
        Quake quake = quakeOf(q);
        return quake == null ? null : quake.reading(c);
    }

    private boolean isFitting(Quake quake, int set, int x, int y) {
        int earliest = Integer.MIN_VALUE;
        int latest = Integer.MAX_VALUE;
        for (int c = 0; c < cellarCount && earliest <= latest; c++) {
            Reading reading = (set >> c & 1) == 0 ? null : quake.reading(c);
            Cellar cellar = cellarOf(c);
            if (reading == null || cellar == null) {
                continue;
            }
            int distance = chart.distance(x, y, cellar.x, cellar.y);
            earliest = Math.max(earliest, reading.earliest(slowness * distance, secondSlowness * distance));
            latest = Math.min(latest, reading.latest(slowness * distance, secondSlowness * distance));
        }
        return earliest <= latest;
    }

    private int countFitting(Quake quake, int set) {
        int count = 0;
        for (int cell = 0; cell < CELLS; cell++) {
            if (isFitting(quake, set, cell % SIDE, cell / SIDE)) {
                count++;
            }
        }
        return count;
    }

    private int fittingCell(Quake quake, int set, int number) {
        int left = number;
        for (int cell = 0; cell < CELLS; cell++) {
            if (isFitting(quake, set, cell % SIDE, cell / SIDE)) {
                if (left == 0) {
                    return cell;
                }
                left--;
            }
        }
        return NONE;
    }

    private static int sectorOf(int dx, int dy) {
        if (dx == 0 && dy == 0) {
            return NONE;
        }
        int sector = upperSector(dx, dy);
        return sector != NONE ? sector : 4 + upperSector(-dx, -dy);
    }

    private static int upperSector(int dx, int dy) {
        if (dx > 0 && dy >= 0) {
            return dy < dx ? 0 : 1;
        }
        if (dx <= 0 && dy > -dx) {
            return 2;
        }
        return dx < 0 && dy > 0 ? 3 : NONE;
    }

    private static int slidesOf(int sector, int beat) {
        if (sector == NONE) {
            return 15;
        }
        int agreeing = 0;
        for (int k = 0; k < 4; k++) {
            // SECTORS k, k + 1, k + 4, k + 5 are those that are 0 or 1 beyond k, modulo 4
            boolean up = Math.floorMod(sector - k, 4) < 2;
            if (up == (beat > 0)) {
                agreeing = agreeing | 1 << k;
            }
        }
        return agreeing;
    }

    private static int levelOf(int v) {
        if (v <= 0) {
            return 0;
        }
        int k = 0;
        for (int half = v / 2; half > 0 && k < 30; half = half / 2) {
            k++;
        }
        // a long, since ten times a great number would wrap as an int
        long beyond = 10L * (v - (1 << k));
        return 10 * k + (int) (beyond >> k);
    }

    private static int fading(int distance) {
        return Math.floorDiv(3 * levelOf(distance + 1), 2);
    }

    /** SIZE of a READING without the CELLAR's HABIT, or UNKNOWN. */
    private int bareSize(Quake quake, int x, int y, int c) {
        Reading reading = quake.reading(c);
        Cellar cellar = cellarOf(c);
        if (reading == null || cellar == null || reading.peak == 0) {
            return UNKNOWN;
        }
        return levelOf(reading.peak) + fading(chart.distance(x, y, cellar.x, cellar.y));
    }

    private int meanSize(Quake quake, int x, int y, int without) {
        int sum = 0;
        int count = 0;
        for (int c = 0; c < cellarCount; c++) {
            Cellar cellar = cellarOf(c);
            int bare = c == without ? UNKNOWN : bareSize(quake, x, y, c);
            if (cellar != null && bare != UNKNOWN) {
                sum += bare + cellar.habit;
                count++;
            }
        }
        return mean(sum, count);
    }

    /** SIZE by all others less SIZE by the CELLAR itself at the QUAKE's PLACE, or UNKNOWN. */
    private int lackOf(Quake quake, int c) {
        if (quake == null || quake.placeX == NONE) {
            return UNKNOWN;
        }
        int bare = bareSize(quake, quake.placeX, quake.placeY, c);
        int others = meanSize(quake, quake.placeX, quake.placeY, c);
        return bare == UNKNOWN || others == UNKNOWN ? UNKNOWN : others - bare;
    }

    private boolean takeSame(int i, int h, int r, int z) {
        for (int j = 0; j < catalogue1.entryCount; j++) {
            boolean near = !catalogue1.isTaken[j]
                && Math.abs(catalogue0.hours[i] - catalogue1.hours[j]) <= h
                && Math.abs(catalogue0.sizes[i] - catalogue1.sizes[j]) <= z
                && chart.distance(catalogue0.xs[i], catalogue0.ys[i], catalogue1.xs[j], catalogue1.ys[j]) <= r;
            if (near) {
                catalogue1.isTaken[j] = true;
                return true;
            }
        }
        return false;
    }

    private boolean isQuarry(int cell, int r, int n) {
        int x = cell % SIDE;
        int y = cell / SIDE;
        int count = 0;
        for (int i = 0; i < catalogue0.entryCount; i++) {
            if (chart.distance(x, y, catalogue0.xs[i], catalogue0.ys[i]) <= r) {
                if (!catalogue0.isAtWork(i)) {
                    return false;
                }
                count++;
            }
        }
        return count >= n;
    }

    private int foretold(int i) {
        if (!within(i, 0, feltList.feltCount - 1)) {
            return 0;
        }
        int cell = feltList.cells[i];
        int entry = feltList.entries[i];
        if (!within(entry, 0, catalogue0.entryCount - 1)) {
            return 0;
        }
        int distance = chart.distance(cell % SIDE, cell / SIDE, catalogue0.xs[entry], catalogue0.ys[entry]);
        return Math.max(0, catalogue0.sizes[entry] - fading(distance));
    }

    private int strayed(boolean asFarAsFromZero) {
        int sum = 0;
        for (int i = 0; i < feltList.feltCount; i++) {
            int difference = foretold(i) - feltList.sizes[i];
            sum += asFarAsFromZero ? Math.abs(difference) : difference;
        }
        return sum;
    }

    /** DISTANCES by the differences of x and y, since roots are asked for thousands of CELLS in one call. */
    private static final class Chart {
        private final int[] distances;

        Chart() {
            distances = new int[CELLS];
            for (int dy = 0; dy < SIDE; dy++) {
                int root = dy;
                for (int dx = 0; dx < SIDE; dx++) {
                    // one step aside lengthens the way by one at most, so the root grows by one at most
                    if ((root + 1) * (root + 1) <= dx * dx + dy * dy) {
                        root++;
                    }
                    distances[SIDE * dy + dx] = root;
                }
            }
        }

        int distance(int x, int y, int otherX, int otherY) {
            int dx = Math.abs(x - otherX);
            int dy = Math.abs(y - otherY);
            int index = SIDE * dy + dx;
            return index >= 0 && index < distances.length ? distances[index] : 0;
        }
    }

    /** A CELLAR with its PEN, PAPER, MARKS, CLOCK and HABIT. */
    private static final class Cellar {
        final int x;
        final int y;
        int damp;
        int stiff;
        int limit;
        int deflection;
        int speed;
        private final int[] samples;
        int sampleCount;
        private final int[] markSamples;
        private final int[] markMinutes;
        int markCount;
        int clockStart;
        int shortestMinute;
        int longestMinute;
        int habit;

        Cellar(int x, int y) {
            this.x = x;
            this.y = y;
            damp = 8;
            stiff = 16;
            limit = 99;
            samples = new int[MOST_SAMPLES];
            markSamples = new int[MOST_MARKS];
            markMinutes = new int[MOST_MARKS];
            shortestMinute = 600;
            longestMinute = 600;
        }

        int step(int push) {
            int pull = (damp * speed + stiff * deflection) / 64;
            speed = speed + push - pull;
            deflection = deflection + speed;
            return Math.max(-limit, Math.min(limit, deflection));
        }

        boolean tell(int i, int sample) {
            if (i < 0 || i > sampleCount || i >= samples.length) {
                return false;
            }
            samples[i] = sample;
            sampleCount = Math.max(sampleCount, i + 1);
            return true;
        }

        int newPaper() {
            int had = sampleCount;
            sampleCount = 0;
            markCount = 0;
            return had;
        }

        boolean hasSample(int i) {
            return i >= 0 && i < sampleCount;
        }

        boolean isMissing(int i) {
            return sampleAt(i) == UNKNOWN;
        }

        boolean isClipped(int i) {
            int sample = sampleAt(i);
            return sample != UNKNOWN && Math.abs(sample) >= limit;
        }

        int clippedCount() {
            int count = 0;
            for (int i = 0; i < sampleCount; i++) {
                if (isClipped(i)) {
                    count++;
                }
            }
            return count;
        }

        int missingCount() {
            int count = 0;
            for (int i = 0; i < sampleCount; i++) {
                if (isMissing(i)) {
                    count++;
                }
            }
            return count;
        }

        boolean isWhole(int from, int to) {
            if (from > to || !hasSample(from) || !hasSample(to)) {
                return false;
            }
            for (int i = from; i <= to; i++) {
                if (isMissing(i)) {
                    return false;
                }
            }
            return true;
        }

        boolean isReadable(int from, int to) {
            if (!isWhole(from, to)) {
                return false;
            }
            for (int i = from; i <= to; i++) {
                if (isClipped(i)) {
                    return false;
                }
            }
            return true;
        }

        int sampleAt(int i) {
            return i >= 0 && i < sampleCount ? samples[i] : UNKNOWN;
        }

        /** v(i), which only means something where both SAMPLES are readable. */
        int speedAt(int i) {
            return sampleAt(i) - sampleAt(i - 1);
        }

        int readBack(int i) {
            int pull = (damp * speedAt(i - 1) + stiff * sampleAt(i - 1)) / 64;
            return speedAt(i) - speedAt(i - 1) + pull;
        }

        boolean press(int sample, int minute) {
            if (!hasSample(sample) || markCount >= MOST_MARKS) {
                return false;
            }
            int last = markCount - 1;
            if (last >= 0 && (sample <= markSamples[last] || minute <= markMinutes[last])) {
                return false;
            }
            markSamples[markCount] = sample;
            markMinutes[markCount] = minute;
            markCount++;
            return true;
        }

        int clockSeconds(int sample) {
            for (int m = 0; m + 1 < markCount; m++) {
                int gap = markSamples[m + 1] - markSamples[m];
                if (gap > 0 && sample >= markSamples[m] && sample < markSamples[m + 1]) {
                    int minutes = markMinutes[m + 1] - markMinutes[m];
                    return 60 * markMinutes[m] + Math.floorDiv((sample - markSamples[m]) * 60 * minutes, gap);
                }
            }
            return NONE;
        }

        int firstBeyond(int threshold) {
            for (int i = 0; i < sampleCount; i++) {
                if (!isMissing(i) && Math.abs(sampleAt(i)) > threshold) {
                    return i;
                }
            }
            return NONE;
        }
    }

    /** SWING: with one DAMP, the STIFFS that leave no GROUND at a SAMPLE stand next to one another. */
    private static final class Ringing {
        int coupleCount;
        int leastDamp;
        int leastStiff;
        private int low;
        private int high;

        void search(Cellar cellar, int from, int to) {
            coupleCount = 0;
            leastDamp = NONE;
            leastStiff = NONE;
            for (int damp = 0; damp < 64; damp++) {
                low = 0;
                high = 63;
                for (int i = from + 2; i <= to && low <= high; i++) {
                    int before = cellar.speedAt(i - 1);
                    narrow(before - cellar.speedAt(i), damp * before, cellar.sampleAt(i - 1));
                }
                if (low <= high) {
                    keep(damp);
                }
            }
        }

        private void keep(int damp) {
            if (coupleCount == 0) {
                leastDamp = damp;
                leastStiff = low;
            }
            coupleCount += high - low + 1;
        }

        /** Leaves the STIFFS for which (damping + STIFF y) by 64, towards 0, is pull. */
        private void narrow(int pull, int damping, int y) {
            int least = (pull > 0 ? 64 * pull : 64 * pull - 63) - damping;
            int most = (pull < 0 ? 64 * pull : 64 * pull + 63) - damping;
            if (y > 0) {
                keepBetween(least, most, y);
            } else if (y < 0) {
                keepBetween(-most, -least, -y);
            } else if (least > 0 || most < 0) {
                high = low - 1;
            }
        }

        private void keepBetween(int least, int most, int factor) {
            if (factor > 0) {
                low = Math.max(low, -Math.floorDiv(-least, factor));
                high = Math.min(high, Math.floorDiv(most, factor));
            }
        }
    }

    /** What the RULES may ask of a BURST, in the order of their KEYWORDS. */
    private static final class Burst {
        static final int HOUR = 0;
        static final int DAY = 1;
        static final int PEAK = 2;
        static final int LENGTH = 3;
        static final int CROSSINGS = 4;
        static final int RISE = 5;
        static final int CLIPPED = 6;

        private final int[] facts;

        Burst() {
            facts = new int[7];
        }

        int fact(int number) {
            return number >= 0 && number < facts.length ? facts[number] : 0;
        }

        void setWhen(int hour, int day) {
            facts[HOUR] = hour;
            facts[DAY] = day;
        }

        boolean measure(Cellar cellar, int a, int b) {
            if (!cellar.isWhole(a, b)) {
                return false;
            }
            int peak = NONE;
            int rise = 0;
            int crossings = 0;
            int clipped = 0;
            for (int i = a; i <= b; i++) {
                int sample = cellar.sampleAt(i);
                if (Math.abs(sample) > peak) {
                    peak = Math.abs(sample);
                    rise = i - a;
                }
                if (i > a && isCrossing(cellar.sampleAt(i - 1), sample)) {
                    crossings++;
                }
                if (cellar.isClipped(i)) {
                    clipped++;
                }
            }
            facts[PEAK] = peak;
            facts[LENGTH] = b - a + 1;
            facts[CROSSINGS] = crossings;
            facts[RISE] = rise;
            facts[CLIPPED] = clipped;
            return true;
        }

        private static boolean isCrossing(int sample, int next) {
            return (sample > 0 && next < 0) || (sample < 0 && next > 0);
        }
    }

    /**
     * RULES as steps of a machine with a stack, so that a BURST is judged without reading the TEXT again.
     * A step below OPERATION is a NUMBER; one above it is OPERATION and the token that asked for it.
     */
    private static final class RuleProgram {
        static final int OPERATION = 10000;
        // above every step that a U, a sign or a KEYWORD within a line makes
        static final int VERDICT = 20000;
        private static final int MOST_VALUES = 40;

        private final int[] steps;
        private int stepCount;
        int lineCount;
        private final int[] values;
        private int valueCount;

        RuleProgram() {
            // a token makes one step at most
            steps = new int[MOST_BYTES];
            values = new int[MOST_VALUES];
        }

        void clear() {
            stepCount = 0;
            lineCount = 0;
        }

        void add(int step) {
            if (stepCount < steps.length) {
                steps[stepCount] = step;
                stepCount++;
            }
        }

        void closeLine(int verdict) {
            add(VERDICT + verdict);
            lineCount++;
        }

        int judge(Burst burst) {
            valueCount = 0;
            for (int i = 0; i < stepCount; i++) {
                int step = steps[i];
                if (step < OPERATION) {
                    push(step);
                } else if (step < VERDICT) {
                    operate(step - OPERATION, burst);
                } else if (pop() != 0) {
                    return step - VERDICT;
                }
            }
            return 0;
        }

        private void operate(int token, Burst burst) {
            if (token >= RuleReader.FIRST_FACT && token <= RuleReader.LAST_FACT) {
                push(burst.fact(token - RuleReader.FIRST_FACT));
            } else if (token == RuleReader.NOT) {
                push(1 - pop());
            } else {
                int right = pop();
                int left = pop();
                push(join(token, left, right));
            }
        }

        private static int join(int token, int left, int right) {
            switch (token) {
                case RuleReader.OR:
                    return left | right;
                case RuleReader.AND:
                    return left & right;
                case RuleReader.SIGN + '<':
                    return left < right ? 1 : 0;
                case RuleReader.SIGN + '=':
                    return left == right ? 1 : 0;
                case RuleReader.SIGN + '>':
                    return left > right ? 1 : 0;
                case RuleReader.SIGN + '+':
                    return left + right;
                case RuleReader.SIGN + '-':
                    return left - right;
                case RuleReader.SIGN + '*':
                    return left * right;
                case RuleReader.SIGN + '/':
                    return right == 0 ? 0 : left / right;
                default:
                    return 0;
            }
        }

        private void push(int value) {
            if (valueCount < values.length) {
                values[valueCount] = value;
                valueCount++;
            }
        }

        private int pop() {
            if (valueCount <= 0) {
                return 0;
            }
            valueCount--;
            return values[valueCount];
        }
    }

    /**
     * The TAPE, its TOKENS, and what may stand behind what; the TEXT becomes a program, or the first FAULT is found.
     * Operators wait in a row until a weaker one comes, so that the depth of a TEXT is no depth of calls.
     */
    private static final class RuleReader {
        static final int TRUCK = 0;
        static final int BLAST = 1;
        static final int QUAKE = 2;
        static final int WHEN = 3;
        static final int OR = 4;
        static final int AND = 5;
        static final int NOT = 6;
        static final int FIRST_FACT = 7;
        static final int LAST_FACT = 13;
        static final int SIGN = 100;
        private static final int NUMBER = 20;
        private static final int FINISH = 21;
        private static final int NO_TOKEN = 22;
        private static final String SIGNS = ";+-*/()<=>";

        // what is due next
        private static final int LINE_DUE = 0;
        private static final int WHEN_DUE = 1;
        private static final int CONDITION_DUE = 2;
        private static final int UNIT_DUE = 3;
        private static final int DIVISOR_DUE = 4;
        private static final int UNIT_STOOD = 5;
        private static final int BRACKET_STOOD = 6;

        // how strongly operators bind; NO_RANK is what joins nothing
        private static final int NO_RANK = 0;
        private static final int RANK_OR = 1;
        private static final int RANK_AND = 2;
        private static final int RANK_NOT = 3;
        private static final int RANK_COMPARISON = 4;
        private static final int RANK_SUM = 5;
        private static final int RANK_PRODUCT = 6;
        private static final int MOST_WAITING = 40;

        private final int[] tape;
        int tapeLength;
        private int position;
        private int token;
        private int tokenPlace;
        private int number;
        private int state;
        private int verdict;
        private boolean isCompared;
        private final int[] waiting;
        private int waitingCount;
        private int openCount;
        private int bracketCount;
        int faultNumber;
        int faultPlace;
        RuleProgram program;
        private RuleProgram draft;

        RuleReader() {
            tape = new int[MOST_BYTES];
            waiting = new int[MOST_WAITING];
            faultPlace = NONE;
            program = new RuleProgram();
            draft = new RuleProgram();
        }

        void append(int bytes) {
            for (int shift = 24; shift >= 0 && tapeLength < tape.length; shift -= 8) {
                tape[tapeLength] = bytes >>> shift & 255;
                tapeLength++;
            }
        }

        boolean translate() {
            begin();
            // every TOKEN has one byte at least, and the end counts as one more
            for (int n = 0; n <= MOST_BYTES && faultNumber == 0; n++) {
                advance();
                if (token == FINISH && state == LINE_DUE) {
                    break;
                }
                take();
            }
            tapeLength = 0;
            if (faultNumber != 0) {
                return false;
            }
            RuleProgram former = program;
            program = draft;
            draft = former;
            return true;
        }

        private void begin() {
            draft.clear();
            position = 0;
            state = LINE_DUE;
            waitingCount = 0;
            openCount = 0;
            bracketCount = 0;
            faultNumber = 0;
            faultPlace = NONE;
        }

        private void refuse(int fault) {
            faultNumber = fault;
            faultPlace = tokenPlace;
        }

        // ---- what may stand where

        private void take() {
            switch (state) {
                case LINE_DUE:
                    takeLine();
                    break;
                case WHEN_DUE:
                    takeWhen();
                    break;
                case CONDITION_DUE:
                    takeCondition();
                    break;
                case UNIT_DUE:
                    takeUnit();
                    break;
                case DIVISOR_DUE:
                    takeDivisor();
                    break;
                default:
                    takeFollower();
                    break;
            }
        }

        private void takeLine() {
            if (token < TRUCK || token > QUAKE) {
                refuse(1);
            } else if (draft.lineCount >= MOST_LINES) {
                refuse(3);
            } else {
                verdict = token - TRUCK + 1;
                state = WHEN_DUE;
            }
        }

        private void takeWhen() {
            if (token == WHEN) {
                state = CONDITION_DUE;
            } else {
                refuse(1);
            }
        }

        private void takeCondition() {
            boolean opens = token == NOT || token == SIGN + '(';
            if (!opens) {
                isCompared = false;
                takeUnit();
            } else if (openCount >= MOST_OPEN) {
                refuse(3);
            } else {
                holdBack(token);
            }
        }

        private void takeUnit() {
            if (token == NUMBER) {
                draft.add(number);
                state = UNIT_STOOD;
            } else if (token >= FIRST_FACT && token <= LAST_FACT) {
                draft.add(RuleProgram.OPERATION + token);
                state = UNIT_STOOD;
            } else {
                refuse(1);
            }
        }

        private void takeDivisor() {
            if (token != NUMBER) {
                refuse(1);
            } else if (number == 0) {
                refuse(2);
            } else {
                takeUnit();
            }
        }

        private void takeFollower() {
            int rank = rankOf(token);
            boolean isWhole = state == BRACKET_STOOD || isCompared;
            if (state == UNIT_STOOD && (rank == RANK_SUM || rank == RANK_PRODUCT)) {
                takeJoint(rank, token == SIGN + '/' ? DIVISOR_DUE : UNIT_DUE);
            } else if (state == UNIT_STOOD && rank == RANK_COMPARISON && !isCompared) {
                isCompared = true;
                takeJoint(rank, UNIT_DUE);
            } else if (isWhole && (rank == RANK_OR || rank == RANK_AND)) {
                takeJoint(rank, CONDITION_DUE);
            } else if (isWhole && token == SIGN + ')' && bracketCount > 0) {
                closeBracket();
            } else if (isWhole && token == SIGN + ';' && bracketCount == 0) {
                release(RANK_OR);
                draft.closeLine(verdict);
                state = LINE_DUE;
            } else {
                refuse(1);
            }
        }

        private void takeJoint(int rank, int next) {
            release(rank);
            holdBack(token);
            state = next;
        }

        private void closeBracket() {
            release(RANK_OR);
            if (waitingCount > 0) {
                waitingCount--;
                openCount--;
                bracketCount--;
            }
            state = BRACKET_STOOD;
        }

        private void holdBack(int operator) {
            if (waitingCount < waiting.length) {
                waiting[waitingCount] = operator;
                waitingCount++;
                openCount += operator == NOT || operator == SIGN + '(' ? 1 : 0;
                bracketCount += operator == SIGN + '(' ? 1 : 0;
            }
        }

        /** Operators that bind at least so strongly have all that they join; a bracket holds those before it. */
        private void release(int rank) {
            for (int n = waitingCount - 1; n >= 0 && rankOf(waiting[n]) >= rank; n--) {
                draft.add(RuleProgram.OPERATION + waiting[n]);
                openCount -= waiting[n] == NOT ? 1 : 0;
                waitingCount = n;
            }
        }

        private static int rankOf(int token) {
            switch (token) {
                case OR:
                    return RANK_OR;
                case AND:
                    return RANK_AND;
                case NOT:
                    return RANK_NOT;
                case SIGN + '<':
                case SIGN + '=':
                case SIGN + '>':
                    return RANK_COMPARISON;
                case SIGN + '+':
                case SIGN + '-':
                    return RANK_SUM;
                case SIGN + '*':
                case SIGN + '/':
                    return RANK_PRODUCT;
                default:
                    return NO_RANK;
            }
        }

        // ---- tokens

        private void advance() {
            skipBlanks();
            tokenPlace = position;
            if (position >= tapeLength || position >= tape.length) {
                token = FINISH;
                return;
            }
            int sign = tape[position];
            if (isLetter(sign)) {
                skipLetters();
                token = keyword();
            } else if (isDigit(sign)) {
                takeNumber();
            } else {
                position++;
                token = SIGNS.indexOf((char) sign) >= 0 ? SIGN + sign : NO_TOKEN;
            }
        }

        private void skipBlanks() {
            for (; position < tapeLength && position < tape.length; position++) {
                if (tape[position] != 32 && tape[position] != 10) {
                    return;
                }
            }
        }

        private void skipLetters() {
            for (; position < tapeLength && position < tape.length; position++) {
                if (!isLetter(tape[position])) {
                    return;
                }
            }
        }

        private void takeNumber() {
            number = 0;
            for (; position < tapeLength && position < tape.length; position++) {
                if (!isDigit(tape[position])) {
                    break;
                }
                number = 10 * number + tape[position] - '0';
            }
            token = position - tokenPlace <= 4 ? NUMBER : NO_TOKEN;
        }

        private int keyword() {
            for (int word = TRUCK; word <= LAST_FACT; word++) {
                if (isTokenText(spelling(word))) {
                    return word;
                }
            }
            return NO_TOKEN;
        }

        private boolean isTokenText(String text) {
            if (text.length() != position - tokenPlace || position > tape.length) {
                return false;
            }
            for (int i = 0; i < text.length(); i++) {
                if (tape[tokenPlace + i] != text.charAt(i)) {
                    return false;
                }
            }
            return true;
        }

        private static boolean isLetter(int sign) {
            return (sign >= 'a' && sign <= 'z') || (sign >= 'A' && sign <= 'Z');
        }

        private static boolean isDigit(int sign) {
            return sign >= '0' && sign <= '9';
        }

        private static String spelling(int word) {
            switch (word) {
                case TRUCK:
                    return "truck";
                case BLAST:
                    return "blast";
                case QUAKE:
                    return "quake";
                case WHEN:
                    return "when";
                case OR:
                    return "or";
                case AND:
                    return "and";
                case NOT:
                    return "not";
                case FIRST_FACT + Burst.HOUR:
                    return "hour";
                case FIRST_FACT + Burst.DAY:
                    return "day";
                case FIRST_FACT + Burst.PEAK:
                    return "peak";
                case FIRST_FACT + Burst.LENGTH:
                    return "length";
                case FIRST_FACT + Burst.CROSSINGS:
                    return "crossings";
                case FIRST_FACT + Burst.RISE:
                    return "rise";
                default:
                    return "clipped";
            }
        }
    }

    /** What one CELLAR read of one QUAKE. */
    private static final class Reading {
        int from;
        int to;
        int secondFrom;
        int secondTo;
        int beat;
        int peak;

        /** The earliest time of the QUAKE itself, when P and S were so long on their way. */
        int earliest(int way, int secondWay) {
            return secondFrom == NONE ? from - way : Math.max(from - way, secondFrom - secondWay);
        }

        int latest(int way, int secondWay) {
            return secondFrom == NONE ? to - way : Math.min(to - way, secondTo - secondWay);
        }
    }

    /** A QUAKE: its READINGS by CELLAR, and its PLACE (x NONE: not told). */
    private static final class Quake {
        private final Reading[] readings;
        int placeX;
        int placeY;

        Quake() {
            readings = new Reading[MOST_CELLARS];
            placeX = NONE;
            placeY = NONE;
        }

        Reading reading(int c) {
            return c >= 0 && c < readings.length ? readings[c] : null;
        }

        void readAnew(int c, int from, int to) {
            if (c < 0 || c >= readings.length) {
                return;
            }
            Reading reading = readings[c];
            if (reading == null) {
                reading = new Reading();
                readings[c] = reading;
            }
            reading.from = from;
            reading.to = to;
            reading.secondFrom = NONE;
            reading.secondTo = NONE;
            reading.beat = 0;
            reading.peak = 0;
        }
    }

    /** The row of times on one PAPER that are to be PARTED. */
    private static final class TimeRow {
        private final int[] times;
        int timeCount;

        TimeRow() {
            times = new int[MOST_TIMES];
        }

        boolean append(int t) {
            if (!within(t, 0, LATEST) || timeCount >= times.length) {
                return false;
            }
            if (timeCount > 0 && t <= times[timeCount - 1]) {
                return false;
            }
            times[timeCount] = t;
            timeCount++;
            return true;
        }

        int waysToPart(int longest) {
            return timeCount % 2 == 0 ? waysFrom(times, timeCount, 0, longest, 0) : 0;
        }

        /** The first time that is free must be a P: all ways to give it its S, and to part the rest. */
        private static int waysFrom(int[] times, int count, int taken, int longest, int depth) {
            int p = 0;
            while (p < count && (taken >> p & 1) == 1) {
                p++;
            }
            if (p >= count || p >= times.length) {
                return 1;
            }
            int ways = 0;
            // each level takes two times
            for (int s = p + 1; s < count && s < times.length && 2 * depth < MOST_TIMES; s++) {
                if ((taken >> s & 1) == 0 && times[s] - times[p] <= longest) {
                    ways += waysFrom(times, count, taken | 1 << p | 1 << s, longest, depth + 1);
                }
            }
            return ways;
        }

        int waysToCouple(int wait, int otherWait, int doubt) {
            int ways = 0;
            for (int partner = 1; partner <= 3; partner++) {
                // of the other two, the first is the first of 1, 2 that is not the partner
                int p = partner == 1 ? 2 : 1;
                int s = partner == 3 ? 2 : 3;
                int one = times[partner] - times[0];
                int two = times[s] - times[p];
                if (isNear(one, wait, two, otherWait, doubt) || isNear(one, otherWait, two, wait, doubt)) {
                    ways++;
                }
            }
            return ways;
        }

        private static boolean isNear(int one, int wait, int two, int otherWait, int doubt) {
            return Math.abs(one - wait) <= doubt && Math.abs(two - otherWait) <= doubt;
        }
    }

    /** ENTRIES of a CATALOGUE; HOURS are counted from DAY 0 on, so that midnight parts nothing. */
    private static final class Catalogue {
        final int[] hours;
        final int[] xs;
        final int[] ys;
        final int[] sizes;
        final boolean[] isTaken;
        int entryCount;

        Catalogue() {
            hours = new int[MOST_ENTRIES];
            xs = new int[MOST_ENTRIES];
            ys = new int[MOST_ENTRIES];
            sizes = new int[MOST_ENTRIES];
            isTaken = new boolean[MOST_ENTRIES];
        }

        int append(int hoursInAll, int cell, int size) {
            if (entryCount >= MOST_ENTRIES) {
                return NONE;
            }
            hours[entryCount] = hoursInAll;
            xs[entryCount] = cell % SIDE;
            ys[entryCount] = cell / SIDE;
            sizes[entryCount] = size;
            entryCount++;
            return entryCount - 1;
        }

        void freeAll() {
            for (int i = 0; i < entryCount; i++) {
                isTaken[i] = false;
            }
        }

        boolean isAtWork(int i) {
            int hour = hours[i] % 24;
            int day = hours[i] / 24;
            return hour >= 8 && hour <= 17 && day % 7 != 6;
        }
    }

    /** What people told that they felt of ENTRIES. */
    private static final class FeltList {
        final int[] cells;
        final int[] entries;
        final int[] sizes;
        int feltCount;

        FeltList() {
            cells = new int[MOST_FELT];
            entries = new int[MOST_FELT];
            sizes = new int[MOST_FELT];
        }

        boolean append(int cell, int entry, int size) {
            if (feltCount >= MOST_FELT) {
                return false;
            }
            cells[feltCount] = cell;
            entries[feltCount] = entry;
            sizes[feltCount] = size;
            feltCount++;
            return true;
        }
    }
}
