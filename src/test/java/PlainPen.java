import java.util.ArrayList;
import java.util.Comparator;
import java.util.LinkedHashMap;
import java.util.List;
import java.util.Map;
import java.util.TreeMap;

/**
 * The whole document once more, sentence by sentence in its own order and with no thought of speed or room: lists and
 * maps, every couple and every time tried. PlainTest holds the class against it, call by call.
 */
final class PlainPen {
    private static final int NONE = -1;
    private static final int UNKNOWN = -1000000000;

    /** "the CELLAR's" things; a MISSING SAMPLE is null. */
    private static final class Cellar {
        int x;
        int y;
        int damp = 8;
        int stiff = 16;
        int limit = 99;
        int deflection;
        int speed;
        int start;
        int least = 600;
        int most = 600;
        int habit;
        final List<Integer> samples = new ArrayList<>();
        final TreeMap<Integer, Integer> marks = new TreeMap<>();

        boolean isClipped(int i) {
            return samples.get(i) != null && Math.abs(samples.get(i)) >= limit;
        }

        boolean has(int from, int to) {
            return from >= 0 && from <= to && to < samples.size() && !samples.subList(from, to + 1).contains(null);
        }

        Integer back(int i, int damping, int stiffness) {
            if (i < 2 || !has(i - 2, i) || isClipped(i) || isClipped(i - 1) || isClipped(i - 2)) {
                return null;
            }
            int v = samples.get(i) - samples.get(i - 1);
            int before = samples.get(i - 1) - samples.get(i - 2);
            return v - before + (damping * before + stiffness * samples.get(i - 1)) / 64;
        }
    }

    private static final class Reading {
        int[] p;
        int[] s;
        int beat;
        int peak;
    }

    private static final class Quake {
        final TreeMap<Integer, Reading> readings = new TreeMap<>();
        int[] place;
    }

    /** An ENTRY, or what was FELT of one (hour is the ENTRY's number then). */
    private record Entry(int day, int hour, int cell, int size) {
    }

    private final List<Cellar> cellars = new ArrayList<>();
    private final List<Quake> quakes = new ArrayList<>();
    private final StringBuilder tape = new StringBuilder();
    private String rules = "";
    private int fault;
    private int faultPlace = NONE;
    private int dp = 10;
    private int ds = 17;
    private final List<Integer> row = new ArrayList<>();
    private final List<List<Entry>> catalogues = List.of(new ArrayList<>(), new ArrayList<>());
    private final List<Entry> feltOnes = new ArrayList<>();

    private static boolean in(int value, int least, int most) {
        return least <= value && value <= most;
    }

    private static int distance(int x, int y, int otherX, int otherY) {
        long square = (long) (x - otherX) * (x - otherX) + (long) (y - otherY) * (y - otherY);
        return (int) Math.sqrt(square + 0.5);
    }

    private boolean isCellar(int c) {
        return in(c, 0, cellars.size() - 1);
    }

    private boolean isQuake(int q) {
        return in(q, 0, quakes.size() - 1);
    }

    private static boolean isCell(int x, int y) {
        return in(x, 0, 39) && in(y, 0, 39);
    }

    // ---- 1

    int cellar(int x, int y) {
        if (!isCell(x, y) || cellars.size() == 6) {
            return NONE;
        }
        Cellar made = new Cellar();
        made.x = x;
        made.y = y;
        cellars.add(made);
        return cellars.size() - 1;
    }

    boolean pen(int c, int damp, int stiff, int limit) {
        if (!isCellar(c) || !in(damp, 0, 63) || !in(stiff, 0, 63) || !in(limit, 10, 999)) {
            return false;
        }
        cellars.get(c).damp = damp;
        cellars.get(c).stiff = stiff;
        cellars.get(c).limit = limit;
        return true;
    }

    int ground(int c, int g) {
        if (!isCellar(c) || !in(g, -9999, 9999) || cellars.get(c).samples.size() == 200) {
            return UNKNOWN;
        }
        Cellar k = cellars.get(c);
        k.speed = k.speed + g - (k.damp * k.speed + k.stiff * k.deflection) / 64;
        k.deflection = k.deflection + k.speed;
        k.samples.add(k.deflection > k.limit ? k.limit : k.deflection < -k.limit ? -k.limit : k.deflection);
        return k.samples.get(k.samples.size() - 1);
    }

    boolean write(int c, int i, int v) {
        if (!isCellar(c) || (v != UNKNOWN && !in(v, -999, 999)) || !in(i, 0, cellars.get(c).samples.size()) || i == 200) {
            return false;
        }
        List<Integer> samples = cellars.get(c).samples;
        Integer told = v == UNKNOWN ? null : v;
        if (i == samples.size()) {
            samples.add(told);
        } else {
            samples.set(i, told);
        }
        return true;
    }

    int paper(int c) {
        if (!isCellar(c)) {
            return NONE;
        }
        int had = cellars.get(c).samples.size();
        cellars.get(c).samples.clear();
        cellars.get(c).marks.clear();
        return had;
    }

    int at(int c, int what) {
        if (!isCellar(c)) {
            return UNKNOWN;
        }
        Cellar k = cellars.get(c);
        int clipped = 0;
        int missing = 0;
        for (int i = 0; i < k.samples.size(); i++) {
            clipped += k.isClipped(i) ? 1 : 0;
            missing += k.samples.get(i) == null ? 1 : 0;
        }
        if (k.has(what, what)) {
            return k.samples.get(what);
        }
        Map<Integer, Integer> told = Map.of(1000, k.samples.size(), 1001, k.deflection, 1002, k.speed, 1003, clipped,
            1004, missing, 1005, k.marks.size());
        return told.getOrDefault(what, UNKNOWN);
    }

    int back(int c, int i) {
        Integer found = isCellar(c) ? cellars.get(c).back(i, cellars.get(c).damp, cellars.get(c).stiff) : null;
        return found == null ? UNKNOWN : found;
    }

    int swing(int c, int from, int to, int what) {
        if (!isCellar(c) || !in(from, 0, 199) || !in(to, 0, 199) || from + 2 > to || !in(what, 0, 2)) {
            return NONE;
        }
        for (int i = from + 2; i <= to; i++) {
            if (cellars.get(c).back(i, 0, 0) == null) {
                return NONE;
            }
        }
        List<int[]> couples = new ArrayList<>();
        for (int couple = 0; couple < 64 * 64; couple++) {
            boolean silent = true;
            for (int i = from + 2; i <= to && silent; i++) {
                silent = cellars.get(c).back(i, couple / 64, couple % 64) == 0;
            }
            if (silent) {
                couples.add(new int[] {couple / 64, couple % 64});
            }
        }
        return what == 0 ? couples.size() : couples.isEmpty() ? NONE : couples.get(0)[what - 1];
    }

    // ---- 2

    boolean mark(int c, int sample, int minute) {
        if (!isCellar(c) || !in(minute, 0, 9999) || !in(sample, 0, cellars.get(c).samples.size() - 1)) {
            return false;
        }
        TreeMap<Integer, Integer> marks = cellars.get(c).marks;
        boolean behind = marks.isEmpty() || (sample > marks.lastKey() && minute > marks.lastEntry().getValue());
        if (!behind || marks.size() == 40) {
            return false;
        }
        marks.put(sample, minute);
        return true;
    }

    boolean clock(int c, int t, int a, int b) {
        if (!isCellar(c) || !in(t, 0, 999999) || !in(a, 500, 700) || !in(b, 500, 700) || a > b) {
            return false;
        }
        cellars.get(c).start = t;
        cellars.get(c).least = a;
        cellars.get(c).most = b;
        return true;
    }

    long time(int c, int sample, int what) {
        if (!isCellar(c) || !in(what, 0, 2)) {
            return NONE;
        }
        Cellar k = cellars.get(c);
        Map.Entry<Integer, Integer> one = k.marks.floorEntry(sample);
        Map.Entry<Integer, Integer> two = k.marks.higherEntry(sample);
        if (one == null || two == null) {
            return NONE;
        }
        long minutes = two.getValue() - one.getValue();
        long seconds = 60L * one.getValue() + (sample - one.getKey()) * 60L * minutes / (two.getKey() - one.getKey());
        return what == 2 ? seconds : k.start + (what == 0 ? seconds * k.least / 60 : (seconds + 1) * k.most / 60);
    }

    int first(int c, int threshold) {
        if (!isCellar(c) || !in(threshold, 0, 999)) {
            return NONE;
        }
        List<Integer> samples = cellars.get(c).samples;
        for (int i = 0; i < samples.size(); i++) {
            if (samples.get(i) != null && (samples.get(i) > threshold || samples.get(i) < -threshold)) {
                return i;
            }
        }
        return NONE;
    }

    private Map<String, Integer> facts(int c, int a, int b) {
        if (!isCellar(c) || !cellars.get(c).has(a, b)) {
            return null;
        }
        List<Integer> part = cellars.get(c).samples.subList(a, b + 1);
        List<Integer> sizes = part.stream().map(Math::abs).toList();
        int peak = sizes.stream().max(Comparator.naturalOrder()).orElse(0);
        int crossings = 0;
        int clipped = 0;
        for (int i = a; i <= b; i++) {
            clipped += cellars.get(c).isClipped(i) ? 1 : 0;
            crossings += i < b && Integer.signum(part.get(i - a)) * Integer.signum(part.get(i + 1 - a)) == -1 ? 1 : 0;
        }
        Map<String, Integer> facts = new LinkedHashMap<>();
        facts.put("peak", peak);
        facts.put("crossings", crossings);
        facts.put("rise", sizes.indexOf(peak));
        facts.put("clipped", clipped);
        facts.put("length", b - a + 1);
        return facts;
    }

    int burst(int c, int a, int b, int what) {
        Map<String, Integer> facts = facts(c, a, b);
        return facts == null || !in(what, 0, 3) ? NONE : new ArrayList<>(facts.values()).get(what);
    }

    int kind(int c, int a, int b, int hour, int day) {
        Map<String, Integer> facts = facts(c, a, b);
        if (facts == null || !in(hour, 0, 23) || !in(day, 0, 6)) {
            return NONE;
        }
        facts.put("hour", hour);
        facts.put("day", day);
        return read(rules, facts).verdict;
    }

    private static RuleModel read(String text, Map<String, Integer> facts) {
        RuleModel model = new RuleModel(text, facts);
        model.read();
        return model;
    }

    int feed(int a, int b, int c, int d, int e) {
        if (tape.length() + 20 > 600) {
            return NONE;
        }
        for (int number : new int[] {a, b, c, d, e}) {
            for (int k = 3; k >= 0; k--) {
                tape.append((char) (number >> 8 * k & 255));
            }
        }
        return tape.length();
    }

    boolean end(int n) {
        if (!in(n, 0, tape.length())) {
            return false;
        }
        tape.setLength(n);
        return true;
    }

    int rules() {
        String text = tape.toString();
        tape.setLength(0);
        fault = 0;
        faultPlace = NONE;
        try {
            int lines = read(text, NOTHING).lines;
            rules = text;
            return lines;
        } catch (RuleModel.Fault found) {
            fault = found.number;
            faultPlace = found.place;
            return NONE;
        }
    }

    private static final Map<String, Integer> NOTHING = Map.of("peak", 0, "crossings", 0, "rise", 0, "clipped", 0,
        "length", 0, "hour", 0, "day", 0);

    int fault(int what) {
        return what == 0 ? fault : what == 1 ? faultPlace : NONE;
    }

    // ---- 3

    boolean waves(int p, int s) {
        if (!in(p, 1, 99) || !in(s, 1, 99) || s <= p) {
            return false;
        }
        dp = p;
        ds = s;
        return true;
    }

    int quake() {
        if (quakes.size() == 16) {
            return NONE;
        }
        quakes.add(new Quake());
        return quakes.size() - 1;
    }

    boolean read(int q, int c, int from, int to) {
        if (!isQuake(q) || !isCellar(c) || !in(from, 0, 9999999) || !in(to, 0, 9999999) || from > to) {
            return false;
        }
        Reading made = new Reading();
        made.p = new int[] {from, to};
        quakes.get(q).readings.put(c, made);
        return true;
    }

    boolean second(int q, int c, int from, int to) {
        if (!isQuake(q) || !quakes.get(q).readings.containsKey(c)) {
            return false;
        }
        if (from != NONE && (!in(from, 0, 9999999) || !in(to, 0, 9999999) || from > to)) {
            return false;
        }
        quakes.get(q).readings.get(c).s = from == NONE ? null : new int[] {from, to};
        return true;
    }

    boolean beat(int q, int c, int beat, int peak) {
        if (!isQuake(q) || !quakes.get(q).readings.containsKey(c) || !in(beat, -1, 1) || !in(peak, 0, 999999)) {
            return false;
        }
        quakes.get(q).readings.get(c).beat = beat;
        quakes.get(q).readings.get(c).peak = peak;
        return true;
    }

    /** If any time O will do, then one by which some P or S lies just at the end of what was read. */
    private boolean isFitting(int q, int set, int cell) {
        List<int[]> spans = new ArrayList<>();
        for (Map.Entry<Integer, Reading> one : quakes.get(q).readings.entrySet()) {
            if ((set & 1 << one.getKey()) != 0) {
                Cellar k = cellars.get(one.getKey());
                int far = distance(cell % 40, cell / 40, k.x, k.y);
                spans.add(new int[] {one.getValue().p[0], one.getValue().p[1], dp * far});
                if (one.getValue().s != null) {
                    spans.add(new int[] {one.getValue().s[0], one.getValue().s[1], ds * far});
                }
            }
        }
        boolean fits = spans.isEmpty();
        for (int[] span : spans) {
            int o = span[1] - span[2];
            fits |= spans.stream().allMatch(other -> in(o + other[2], other[0], other[1]));
        }
        return fits;
    }

    private List<Integer> fitting(int q, int set) {
        List<Integer> cells = new ArrayList<>();
        for (int cell = 0; cell < 1600; cell++) {
            if (isFitting(q, set, cell)) {
                cells.add(cell);
            }
        }
        return cells;
    }

    int fits(int q, int set, int what) {
        if (!isQuake(q) || !in(set, 1, 63) || !in(what, 0, 1600)) {
            return NONE;
        }
        List<Integer> cells = fitting(q, set);
        return what == 0 ? cells.size() : what <= cells.size() ? cells.get(what - 1) : NONE;
    }

    int fit(int q, int x, int y) {
        return !isQuake(q) || !isCell(x, y) ? NONE : isFitting(q, 63, 40 * y + x) ? 1 : 0;
    }

    int wrong(int q) {
        if (!isQuake(q) || !fitting(q, 63).isEmpty()) {
            return NONE;
        }
        List<Integer> mending = new ArrayList<>();
        for (int c = 0; c < cellars.size(); c++) {
            if (!fitting(q, 63 - (1 << c)).isEmpty()) {
                mending.add(c);
            }
        }
        return mending.size() == 1 ? mending.get(0) : NONE;
    }

    private static boolean isInSector(int sector, int dx, int dy) {
        switch (sector) {
            case 0:
                return dx > 0 && dy >= 0 && dy < dx;
            case 1:
                return dx > 0 && dy >= dx;
            case 2:
                return dx <= 0 && dy > -dx;
            case 3:
                return dx < 0 && dy > 0 && dy <= -dx;
            default:
                return isInSector(sector - 4, -dx, -dy);
        }
    }

    int slides(int q, int x, int y) {
        if (!isQuake(q) || !isCell(x, y)) {
            return NONE;
        }
        int set = 0;
        for (int k = 0; k < 4; k++) {
            List<Integer> up = List.of(k, k + 1, k + 4, (k + 5) % 8);
            boolean agrees = true;
            for (Map.Entry<Integer, Reading> one : quakes.get(q).readings.entrySet()) {
                Cellar cellar = cellars.get(one.getKey());
                for (int sector = 0; sector < 8; sector++) {
                    if (one.getValue().beat != 0 && isInSector(sector, cellar.x - x, cellar.y - y)) {
                        agrees &= up.contains(sector) == (one.getValue().beat == 1);
                    }
                }
            }
            set += agrees ? 1 << k : 0;
        }
        return set;
    }

    // ---- 4

    int level(int v) {
        if (v <= 0) {
            return v < 0 ? NONE : 0;
        }
        int k = 0;
        while (k < 30 && 1L << k + 1 <= v) {
            k++;
        }
        return (int) (10L * k + (v - (1L << k)) * 10 / (1L << k));
    }

    boolean habit(int c, int v) {
        if (!isCellar(c) || !in(v, -50, 50)) {
            return false;
        }
        cellars.get(c).habit = v;
        return true;
    }

    /** SIZES that the READINGS tell at a CELL, by CELLAR. */
    private Map<Integer, Integer> sizes(int q, int x, int y) {
        Map<Integer, Integer> sizes = new TreeMap<>();
        for (Map.Entry<Integer, Reading> one : quakes.get(q).readings.entrySet()) {
            Cellar k = cellars.get(one.getKey());
            if (one.getValue().peak != 0) {
                int far = 3 * level(distance(x, y, k.x, k.y) + 1) / 2;
                sizes.put(one.getKey(), level(one.getValue().peak) + far + k.habit);
            }
        }
        return sizes;
    }

    private static int mean(Iterable<Integer> values) {
        int sum = 0;
        int number = 0;
        for (int value : values) {
            sum += value;
            number++;
        }
        return number == 0 ? UNKNOWN : (int) Math.floor((double) sum / number);
    }

    int size(int q, int x, int y, int c) {
        if (!isQuake(q) || !isCell(x, y)) {
            return UNKNOWN;
        }
        return c == NONE ? mean(sizes(q, x, y).values()) : sizes(q, x, y).getOrDefault(c, UNKNOWN);
    }

    boolean place(int q, int x, int y) {
        if (!isQuake(q) || !isCell(x, y)) {
            return false;
        }
        quakes.get(q).place = new int[] {x, y};
        return true;
    }

    int own(int c) {
        List<Integer> lacks = new ArrayList<>();
        for (int q = 0; q < quakes.size(); q++) {
            int[] place = quakes.get(q).place;
            Map<Integer, Integer> sizes = place == null ? Map.of() : sizes(q, place[0], place[1]);
            if (sizes.containsKey(c) && sizes.size() > 1) {
                int alone = sizes.remove(c) - cellars.get(c).habit;
                lacks.add(mean(sizes.values()) - alone);
            }
        }
        return mean(lacks);
    }

    int pick(int t) {
        if (t == NONE) {
            row.clear();
            return 0;
        }
        if (!in(t, row.isEmpty() ? 0 : row.get(row.size() - 1) + 1, 9999999) || row.size() == 8) {
            return NONE - 1;
        }
        row.add(t);
        return row.size();
    }

    /** All ways to put the times in couples, each as its waits. */
    private static List<List<Integer>> couplings(List<Integer> times) {
        List<List<Integer>> all = new ArrayList<>();
        if (times.isEmpty()) {
            all.add(new ArrayList<>());
        }
        for (int i = 1; i < times.size(); i++) {
            List<Integer> rest = new ArrayList<>(times.subList(1, times.size()));
            rest.remove(i - 1);
            for (List<Integer> way : couplings(rest)) {
                way.add(0, times.get(i) - times.get(0));
                all.add(way);
            }
        }
        return all;
    }

    int parted(int w) {
        if (!in(w, 0, 9999)) {
            return NONE;
        }
        return (int) couplings(row).stream().filter(way -> way.stream().allMatch(wait -> wait <= w)).count();
    }

    int couples(int d, int e, int u) {
        if (!in(d, 0, 55) || !in(e, 0, 55) || !in(u, 0, 999) || row.size() != 4) {
            return NONE;
        }
        int one = (ds - dp) * d;
        int two = (ds - dp) * e;
        return (int) couplings(row).stream()
            .filter(way -> (in(way.get(0), one - u, one + u) && in(way.get(1), two - u, two + u))
                || (in(way.get(1), one - u, one + u) && in(way.get(0), two - u, two + u)))
            .count();
    }

    // ---- 5

    int entry(int k, int day, int hour, int cell, int size) {
        if (!in(k, 0, 1) || !in(day, 0, 9999) || !in(hour, 0, 23) || !in(cell, 0, 1599) || !in(size, 0, 999)) {
            return NONE;
        }
        if (catalogues.get(k).size() == 100) {
            return NONE;
        }
        catalogues.get(k).add(new Entry(day, hour, cell, size));
        return catalogues.get(k).size() - 1;
    }

    private static int distance(int cell, int other) {
        return distance(cell % 40, cell / 40, other % 40, other / 40);
    }

    int joined(int h, int r, int z) {
        if (!in(h, 0, 999) || !in(r, 0, 55) || !in(z, 0, 999)) {
            return NONE;
        }
        List<Entry> free = new ArrayList<>(catalogues.get(1));
        for (Entry a : catalogues.get(0)) {
            for (int i = 0; i < free.size(); i++) {
                Entry b = free.get(i);
                int hours = Math.abs(24 * a.day + a.hour - 24 * b.day - b.hour);
                if (hours <= h && distance(a.cell, b.cell) <= r && Math.abs(a.size - b.size) <= z) {
                    free.remove(i);
                    break;
                }
            }
        }
        return catalogues.get(0).size() + free.size();
    }

    int quarries(int r, int n, int what) {
        if (!in(r, 0, 55) || !in(n, 1, 100) || !in(what, 0, 1)) {
            return NONE;
        }
        List<Integer> found = new ArrayList<>();
        for (int cell = 0; cell < 1600; cell++) {
            int at = cell;
            List<Entry> near = catalogues.get(0).stream().filter(entry -> distance(entry.cell, at) <= r).toList();
            boolean atWork = near.stream().allMatch(entry -> in(entry.hour, 8, 17));
            if (near.size() >= n && atWork && near.stream().noneMatch(entry -> entry.day % 7 == 6)) {
                found.add(cell);
            }
        }
        return what == 0 ? found.size() : found.isEmpty() ? NONE : found.get(0);
    }

    int felt(int cell, int entry, int size) {
        boolean can = in(cell, 0, 1599) && in(entry, 0, catalogues.get(0).size() - 1) && in(size, 0, 999);
        if (!can || feltOnes.size() == 100) {
            return NONE;
        }
        feltOnes.add(new Entry(0, entry, cell, size));
        return feltOnes.size();
    }

    private int foretold(Entry felt) {
        Entry of = catalogues.get(0).get(felt.hour);
        return Math.max(0, of.size - 3 * level(distance(of.cell, felt.cell) + 1) / 2);
    }

    int shaken(int what) {
        if (what == 0) {
            return feltOnes.stream().mapToInt(felt -> Math.abs(foretold(felt) - felt.size)).sum();
        }
        if (what == 1) {
            return feltOnes.stream().mapToInt(felt -> foretold(felt) - felt.size).sum();
        }
        return in(what, 10, 9 + feltOnes.size()) ? foretold(feltOnes.get(what - 10)) : UNKNOWN;
    }

    int look(int what) {
        int both = catalogues.get(0).size() + catalogues.get(1).size();
        int lines = read(rules, NOTHING).lines;
        int[] told = {cellars.size(), quakes.size(), lines, both, row.size(), feltOnes.size()};
        return in(what, 0, 5) ? told[what] : NONE;
    }
}
