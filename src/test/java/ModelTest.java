import java.util.ArrayList;
import java.util.List;
import java.util.Map;
import java.util.Random;

/** Random inputs against slow and plain readings of the document. */
public final class ModelTest {
    private static final int NONE = CellarPen.NONE;
    private static final Random RANDOM = new Random(20261118);

    public static void main(String[] args) {
        for (int i = 0; i < 4000; i++) {
            rules();
        }
        for (int i = 0; i < 300; i++) {
            swing();
        }
        for (int i = 0; i < 60; i++) {
            fits();
        }
        for (int i = 0; i < 300; i++) {
            rows();
        }
        for (int i = 0; i < 200; i++) {
            catalogues();
        }
        for (int i = 0; i < 300; i++) {
            sizes();
        }
        Due.finish("ModelTest");
    }

    // ---- rules

    private static final RuleTexts TEXTS = new RuleTexts(RANDOM);

    private static void rules() {
        CellarPen p = new CellarPen();
        p.cellar(0, 0);
        Due.samples(p, 0, 1, -2, 3, -120, 130, 0);
        String text = TEXTS.next();
        int hour = RANDOM.nextInt(24);
        int day = RANDOM.nextInt(7);
        RuleModel model = new RuleModel(text, Map.of("hour", hour, "day", day, "peak", 130, "length", 6,
            "crossings", 4, "rise", 4, "clipped", 2));
        int fault = 0;
        int place = NONE;
        try {
            model.read();
        } catch (RuleModel.Fault found) {
            fault = found.number;
            place = found.place;
        }
        Due.is("rules of " + text, Due.rules(p, text), fault == 0 ? model.lines : NONE);
        Due.is("fault of " + text, p.fault(0), fault);
        Due.is("place in " + text, p.fault(1), place);
        Due.is("kind by " + text, p.kind(0, 0, 5, hour, day), fault == 0 ? model.verdict : 0);
    }

    // ---- swing

    private static void swing() {
        CellarPen p = new CellarPen();
        p.cellar(0, 0);
        p.pen(0, RANDOM.nextInt(64), RANDOM.nextInt(64), 999);
        int count = 3 + RANDOM.nextInt(6);
        boolean rings = RANDOM.nextBoolean();
        for (int i = 0; i < count; i++) {
            if (rings) {
                p.ground(0, i == 0 ? RANDOM.nextInt(400) - 200 : 0);
            } else {
                p.write(0, i, RANDOM.nextInt(21) - 10);
            }
        }
        int from = RANDOM.nextInt(count - 2);
        int couples = 0;
        int leastDamp = NONE;
        int leastStiff = NONE;
        for (int damp = 0; damp < 64; damp++) {
            for (int stiff = 0; stiff < 64; stiff++) {
                if (isSilent(p, from, count - 1, damp, stiff)) {
                    if (couples == 0) {
                        leastDamp = damp;
                        leastStiff = stiff;
                    }
                    couples++;
                }
            }
        }
        Due.is("swing how many", p.swing(0, from, count - 1, 0), couples);
        Due.is("swing least damp", p.swing(0, from, count - 1, 1), leastDamp);
        Due.is("swing least stiff", p.swing(0, from, count - 1, 2), leastStiff);
    }

    private static boolean isSilent(CellarPen p, int from, int to, int damp, int stiff) {
        for (int i = from + 2; i <= to; i++) {
            int v = p.at(0, i) - p.at(0, i - 1);
            int before = p.at(0, i - 1) - p.at(0, i - 2);
            if (v - before + (damp * before + stiff * p.at(0, i - 1)) / 64 != 0) {
                return false;
            }
        }
        return true;
    }

    // ---- places

    private static int distance(int x, int y, int otherX, int otherY) {
        int square = (x - otherX) * (x - otherX) + (y - otherY) * (y - otherY);
        int root = 0;
        while ((root + 1) * (root + 1) <= square) {
            root++;
        }
        return root;
    }

    /** READINGS as rows of: x, y, P from, P to, S from (NONE: not read), S to. */
    private static boolean isFitting(int[][] readings, int set, int x, int y, int dp, int ds) {
        for (int o = -6000; o <= 1300; o++) {
            boolean all = true;
            for (int c = 0; c < readings.length && all; c++) {
                int[] r = readings[c];
                if ((set >> c & 1) == 0) {
                    continue;
                }
                int far = distance(x, y, r[0], r[1]);
                all = r[2] <= o + dp * far && o + dp * far <= r[3]
                    && (r[4] == NONE || (r[4] <= o + ds * far && o + ds * far <= r[5]));
            }
            if (all) {
                return true;
            }
        }
        return false;
    }

    private static void fits() {
        CellarPen p = new CellarPen();
        int dp = 1 + RANDOM.nextInt(12);
        int ds = dp + 1 + RANDOM.nextInt(12);
        p.waves(dp, ds);
        p.quake();
        int count = 1 + RANDOM.nextInt(3);
        int[][] readings = new int[count][];
        int atX = RANDOM.nextInt(40);
        int atY = RANDOM.nextInt(40);
        for (int c = 0; c < count; c++) {
            int x = RANDOM.nextInt(40);
            int y = RANDOM.nextInt(40);
            int far = distance(x, y, atX, atY);
            int blur = RANDOM.nextInt(20);
            int wrong = RANDOM.nextInt(5) == 0 ? 300 : 0;
            int first = 200 + dp * far + wrong;
            int second = 200 + ds * far;
            boolean hasSecond = RANDOM.nextInt(4) > 0;
            readings[c] = new int[] {x, y, first, first + blur, hasSecond ? second : NONE, second + blur};
            p.cellar(x, y);
            p.read(0, c, first, first + blur);
            p.second(0, c, readings[c][4], readings[c][5]);
        }
        int set = 1 + RANDOM.nextInt((1 << count) - 1);
        int x = RANDOM.nextInt(3) == 0 ? RANDOM.nextInt(40) : atX;
        int y = RANDOM.nextInt(3) == 0 ? RANDOM.nextInt(40) : atY;
        Due.is("fit", p.fit(0, x, y), isFitting(readings, 63, x, y, dp, ds) ? 1 : 0);
        int found = 0;
        boolean listed = false;
        for (int i = 1; i <= 1600; i++) {
            int cell = p.fits(0, set, i);
            if (cell == NONE) {
                break;
            }
            found++;
            listed |= cell == 40 * y + x;
        }
        Due.is("as many as are listed", p.fits(0, set, 0), found);
        Due.is("listed", listed ? 1 : 0, isFitting(readings, set, x, y, dp, ds) ? 1 : 0);
        wrong(p, count);
    }

    private static void wrong(CellarPen p, int count) {
        int all = (1 << count) - 1;
        int alone = NONE;
        int number = 0;
        for (int c = 0; c < count; c++) {
            int rest = all & ~(1 << c);
            if (rest == 0 || p.fits(0, rest, 0) > 0) {
                alone = c;
                number++;
            }
        }
        Due.is("wrong", p.wrong(0), p.fits(0, all, 0) == 0 && number == 1 ? alone : NONE);
    }

    // ---- rows of times

    private static int ways(List<Integer> times, int w) {
        if (times.isEmpty()) {
            return 1;
        }
        int all = 0;
        for (int i = 1; i < times.size(); i++) {
            if (times.get(i) - times.get(0) <= w) {
                List<Integer> rest = new ArrayList<>(times);
                rest.remove(i);
                rest.remove(0);
                all += ways(rest, w);
            }
        }
        return all;
    }

    private static void rows() {
        CellarPen p = new CellarPen();
        List<Integer> times = new ArrayList<>();
        int count = RANDOM.nextInt(9);
        int t = 0;
        for (int i = 0; i < count; i++) {
            t += 1 + RANDOM.nextInt(60);
            times.add(t);
            p.pick(t);
        }
        int w = RANDOM.nextInt(250);
        Due.is("parted " + times + " " + w, p.parted(w), ways(times, w));
        if (count == 4) {
            int d = RANDOM.nextInt(15);
            int e = RANDOM.nextInt(15);
            int u = RANDOM.nextInt(60);
            int[][] waits = {
                {times.get(1) - times.get(0), times.get(3) - times.get(2)},
                {times.get(2) - times.get(0), times.get(3) - times.get(1)},
                {times.get(3) - times.get(0), times.get(2) - times.get(1)}};
            int due = 0;
            for (int[] way : waits) {
                boolean straight = Math.abs(way[0] - 7 * d) <= u && Math.abs(way[1] - 7 * e) <= u;
                boolean crossed = Math.abs(way[1] - 7 * d) <= u && Math.abs(way[0] - 7 * e) <= u;
                due += straight || crossed ? 1 : 0;
            }
            Due.is("couples " + times, p.couples(d, e, u), due);
        }
    }

    // ---- catalogues

    private static int level(int v) {
        if (v == 0) {
            return 0;
        }
        int k = 0;
        while (2L << k <= v) {
            k++;
        }
        return (int) (10 * k + (v - (1L << k)) * 10 / (1L << k));
    }

    private static void catalogues() {
        CellarPen p = new CellarPen();
        List<int[]> mine = new ArrayList<>();
        List<int[]> theirs = new ArrayList<>();
        for (int i = 0; i < 24; i++) {
            int k = RANDOM.nextInt(2);
            int day = RANDOM.nextInt(8);
            int hour = RANDOM.nextInt(4) == 0 ? RANDOM.nextInt(24) : 8 + RANDOM.nextInt(10);
            int cell = RANDOM.nextInt(1600);
            int size = RANDOM.nextInt(100);
            p.entry(k, day, hour, cell, size);
            (k == 0 ? mine : theirs).add(new int[] {day, hour, cell % 40, cell / 40, size});
        }
        int h = RANDOM.nextInt(100);
        int r = RANDOM.nextInt(40);
        int z = RANDOM.nextInt(60);
        List<int[]> left = new ArrayList<>(theirs);
        int joined = mine.size() + theirs.size();
        for (int[] a : mine) {
            for (int[] b : left) {
                int apart = Math.abs((a[0] - b[0]) * 24 + a[1] - b[1]);
                if (apart <= h && distance(a[2], a[3], b[2], b[3]) <= r && Math.abs(a[4] - b[4]) <= z) {
                    left.remove(b);
                    joined--;
                    break;
                }
            }
        }
        Due.is("joined", p.joined(h, r, z), joined);
        quarries(p, mine, RANDOM.nextInt(14), 1 + RANDOM.nextInt(4));
        felt(p, mine);
    }

    private static void quarries(CellarPen p, List<int[]> mine, int r, int n) {
        int first = NONE;
        int number = 0;
        for (int cell = 0; cell < 1600; cell++) {
            int near = 0;
            int bad = 0;
            for (int[] a : mine) {
                if (distance(a[2], a[3], cell % 40, cell / 40) <= r) {
                    near++;
                    bad += a[1] < 8 || a[1] > 17 || a[0] % 7 == 6 ? 1 : 0;
                }
            }
            if (near >= n && bad == 0) {
                first = first == NONE ? cell : first;
                number++;
            }
        }
        Due.is("quarries", p.quarries(r, n, 0), number);
        Due.is("the first quarry", p.quarries(r, n, 1), first);
    }

    private static void felt(CellarPen p, List<int[]> mine) {
        int off = 0;
        int lean = 0;
        for (int i = 0; i < 10 && !mine.isEmpty(); i++) {
            int cell = RANDOM.nextInt(1600);
            int number = RANDOM.nextInt(mine.size());
            int size = RANDOM.nextInt(100);
            int[] entry = mine.get(number);
            int weaker = 3 * level(distance(cell % 40, cell / 40, entry[2], entry[3]) + 1) / 2;
            int foretold = Math.max(0, entry[4] - weaker);
            Due.is("felt", p.felt(cell, number, size), i + 1);
            Due.is("foretold", p.shaken(10 + i), foretold);
            off += Math.abs(foretold - size);
            lean += foretold - size;
        }
        Due.is("off", p.shaken(0), off);
        Due.is("lean", p.shaken(1), lean);
    }

    // ---- sizes

    private static void sizes() {
        CellarPen p = new CellarPen();
        int[][] cellars = new int[4][];
        for (int c = 0; c < 4; c++) {
            cellars[c] = new int[] {RANDOM.nextInt(40), RANDOM.nextInt(40), RANDOM.nextInt(101) - 50};
            p.cellar(cellars[c][0], cellars[c][1]);
            p.habit(c, cellars[c][2]);
        }
        int sum = 0;
        int number = 0;
        for (int q = 0; q < 5; q++) {
            p.quake();
            int x = RANDOM.nextInt(40);
            int y = RANDOM.nextInt(40);
            int own = NONE;
            int others = 0;
            int otherNumber = 0;
            for (int c = 0; c < 4; c++) {
                int peak = RANDOM.nextInt(3) == 0 ? 0 : RANDOM.nextInt(1000000);
                if (RANDOM.nextInt(4) > 0 && p.read(q, c, 0, 0) && p.beat(q, c, 0, peak) && peak > 0) {
                    int size = level(peak) + 3 * level(distance(x, y, cellars[c][0], cellars[c][1]) + 1) / 2;
                    Due.is("size of a reading", p.size(q, x, y, c), size + cellars[c][2]);
                    own = c == 0 ? size : own;
                    others += c == 0 ? 0 : size + cellars[c][2];
                    otherNumber += c == 0 ? 0 : 1;
                } else {
                    Due.is("no size", p.size(q, x, y, c), CellarPen.UNKNOWN);
                }
            }
            boolean placed = RANDOM.nextInt(3) > 0 && p.place(q, x, y);
            if (placed && own != NONE && otherNumber > 0) {
                sum += Math.floorDiv(others, otherNumber) - own;
                number++;
            }
            int all = others + (own == NONE ? 0 : own + cellars[0][2]);
            int allNumber = otherNumber + (own == NONE ? 0 : 1);
            int due = allNumber == 0 ? CellarPen.UNKNOWN : Math.floorDiv(all, allNumber);
            Due.is("size of a quake", p.size(q, x, y, NONE), due);
        }
        Due.is("own", p.own(0), number == 0 ? CellarPen.UNKNOWN : Math.floorDiv(sum, number));
    }
}
