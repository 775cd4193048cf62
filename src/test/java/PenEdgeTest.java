/** The sentences of the document's opening and part 1, and of promises 1 to 9, that name a boundary. */
public final class PenEdgeTest {
    private static final int NONE = CellarPen.NONE;
    private static final int UNKNOWN = CellarPen.UNKNOWN;

    public static void main(String[] args) {
        map();
        distances();
        newObject();
        sixCellars();
        firstPen();
        stepTowardsZero();
        stepAsAhead();
        wrapping();
        fullPaper();
        groundEnds();
        everySample();
        limitFromBothSides();
        clipped();
        toldSamples();
        missingSamples();
        newPaper();
        backFromTwoOn();
        backUnknown();
        swingRange();
        swingOfNone();
        swingEnds();
        swingWholePaper();
        Due.finish("PenEdgeTest");
    }

    private static CellarPen withCellar() {
        CellarPen p = new CellarPen();
        p.cellar(0, 0);
        return p;
    }

    private static void map() {
        Due.says("THE MAP has CELLS x, y 0 .. 39.");
        int[][] corners = {{0, 0}, {39, 0}, {0, 39}, {39, 39}};
        CellarPen p = new CellarPen();
        for (int i = 0; i < corners.length; i++) {
            Due.is("corner " + i, p.cellar(corners[i][0], corners[i][1]), i);
        }
        int[][] beyond = {{-1, 0}, {0, -1}, {40, 0}, {0, 40}, {-1, -1}, {40, 40}, {39, 40}, {40, 39}};
        for (int[] cell : beyond) {
            Due.is("beyond " + cell[0] + ", " + cell[1], p.cellar(cell[0], cell[1]), NONE);
        }
    }

    /** Whether two CELLS are just so far from one another. */
    private static void distance(int dx, int dy, int far) {
        CellarPen p = new CellarPen();
        p.entry(0, 0, 0, 40 * dy + 39, 0);
        p.entry(1, 0, 0, 39 - dx, 0);
        Due.is(dx + ", " + dy + " within " + far, p.joined(0, far, 0), 1);
        if (far > 0) {
            Due.is(dx + ", " + dy + " within " + (far - 1), p.joined(0, far - 1, 0), 2);
        }
    }

    private static void distances() {
        Due.says("the ROOT (the greatest whole number whose square is not above it)");
        distance(1, 0, 1);
        distance(1, 1, 1);
        distance(2, 2, 2);
        distance(2, 3, 3);
        distance(3, 4, 5);
        distance(5, 5, 7);
        distance(4, 7, 8);
        distance(0, 39, 39);
        distance(39, 0, 39);
        distance(39, 8, 39);
        distance(39, 9, 40);
        Due.says("of the sum of the squares of their differences: 0 .. 55.");
        distance(0, 0, 0);
        distance(39, 39, 55);
        distance(39, 38, 54);
    }

    private static void newObject() {
        Due.says("`CellarPen()`: No CELLARS.");
        CellarPen p = new CellarPen();
        Due.is("look", p.look(0), 0);
        for (int c = -1; c <= 5; c++) {
            Due.is("at of " + c, p.at(c, 1000), UNKNOWN);
            Due.is("paper of " + c, p.paper(c), NONE);
            Due.is("ground of " + c, p.ground(c, 0), UNKNOWN);
            Due.no("habit of " + c, p.habit(c, 0));
        }
        Due.is("the first one", p.cellar(1, 1), 0);
        Due.is("a new object knows nothing of another", new CellarPen().look(0), 0);
    }

    private static void sixCellars() {
        Due.says("CELLARS 0 .. 5 as they come, each at a CELL;");
        CellarPen p = new CellarPen();
        for (int c = 0; c < 6; c++) {
            Due.is("not yet " + c, p.at(c, 1000), UNKNOWN);
            Due.is("cellar " + c, p.cellar(c, 39 - c), c);
            Due.is("now " + c, p.at(c, 1000), 0);
        }
        Due.says("A CELLAR: its number; NONE if one can't be, or there are six.");
        Due.is("the seventh", p.cellar(0, 0), NONE);
        Due.is("still six", p.look(0), 6);
        Due.is("no cellar 6", p.at(6, 1000), UNKNOWN);
        Due.is("the sixth writes", p.ground(5, 7), 7);
        Due.is("the first one does not", p.at(0, 1000), 0);
        CellarPen odd = new CellarPen();
        odd.cellar(40, 0);
        Due.is("a refused one takes no number", odd.cellar(0, 0), 0);
        Due.is("two at one cell", odd.cellar(0, 0), 1);
    }

    private static void firstPen() {
        Due.says("its PEN has DAMP and STIFF (0 .. 63, 8 and 16 at first), LIMIT (10 .. 999, 99 at first).");
        CellarPen p = withCellar();
        Due.is("limit 99", p.ground(0, 200), 99);
        p.ground(0, 0);
        Due.is("damp 8, stiff 16", p.at(0, 1002), 200 - (8 * 200 + 16 * 200) / 64);
        CellarPen damped = withCellar();
        damped.pen(0, 63, 0, 999);
        damped.ground(0, 640);
        damped.ground(0, 0);
        Due.is("damp 63", damped.at(0, 1002), 10);
        CellarPen stiff = withCellar();
        stiff.pen(0, 0, 63, 999);
        stiff.ground(0, 640);
        stiff.ground(0, 0);
        Due.is("stiff 63", stiff.at(0, 1002), 10);
        CellarPen free = withCellar();
        free.pen(0, 0, 0, 10);
        free.ground(0, 640);
        Due.is("limit 10", free.ground(0, 0), 10);
        Due.is("damp 0, stiff 0", free.at(0, 1002), 640);
        Due.says("Y and V are 0 at first.");
        CellarPen still = withCellar();
        Due.is("Y", still.at(0, 1001), 0);
        Due.is("V", still.at(0, 1002), 0);
        Due.is("a step without ground", still.ground(0, 0), 0);
    }

    /** V after a push, damped by 1 alone: V less V by 64, towards 0. */
    private static int damped(int push) {
        CellarPen p = withCellar();
        p.pen(0, 1, 0, 999);
        p.ground(0, push);
        p.ground(0, 0);
        return p.at(0, 1002);
    }

    private static void stepTowardsZero() {
        Due.says("by 64 (towards 0, by the V and Y as ahead)");
        Due.is("63", damped(63), 63);
        Due.is("64", damped(64), 63);
        Due.is("127", damped(127), 126);
        Due.is("128", damped(128), 126);
        Due.is("-63", damped(-63), -63);
        Due.is("-64", damped(-64), -63);
        Due.is("-127", damped(-127), -126);
        Due.is("-128", damped(-128), -126);
    }

    private static void stepAsAhead() {
        Due.says("then Y becomes Y + V");
        CellarPen p = withCellar();
        p.pen(0, 32, 32, 999);
        Due.is("Y takes the new V at once", p.ground(0, 100), 100);
        // the pull is by V 100 and Y 100: 100, so that V is 0 and Y stays
        Due.is("the pull is by those ahead", p.ground(0, 0), 100);
        Due.is("V", p.at(0, 1002), 0);
        // the ground does not weigh in the pull of its own step: V is 64 - 50
        Due.is("nor by the ground of now", p.ground(0, 64), 114);
    }

    /** Steps of the document in ints, and the sums in longs, to see that something was wrapped. */
    private static void wrapping() {
        Due.says("Y becomes Y + V (ints, which wrap)");
        CellarPen p = withCellar();
        p.pen(0, 0, 0, 10);
        int v = 0;
        int y = 0;
        for (int i = 0; i < 90; i++) {
            v += 9999;
            y += v;
            p.ground(0, 9999);
        }
        boolean pullWraps = false;
        boolean yWraps = false;
        boolean vWraps = false;
        for (int i = 0; i < 100; i++) {
            int stiff = strongest(v, y);
            p.pen(0, 0, stiff, 10);
            int pull = stiff * y / 64;
            pullWraps |= (long) stiff * y != stiff * y;
            vWraps |= (long) v + 9999 - pull != v + 9999 - pull;
            v = v + 9999 - pull;
            yWraps |= (long) y + v != y + v;
            y = y + v;
            Due.is("sample " + i, p.ground(0, 9999), Math.max(-10, Math.min(10, y)));
        }
        Due.is("Y", p.at(0, 1001), y);
        Due.is("V", p.at(0, 1002), v);
        Due.yes("the pull was wrapped", pullWraps);
        Due.yes("V was wrapped", vWraps);
        Due.yes("Y was wrapped", yWraps);
    }

    /** The STIFF that drives V up most. */
    private static int strongest(int v, int y) {
        int best = 0;
        for (int stiff = 0; stiff < 64; stiff++) {
            if (stiff * y / 64 < best * y / 64) {
                best = stiff;
            }
        }
        return best;
    }

    private static void fullPaper() {
        Due.says("Written behind the PAPER (200 SAMPLES at most) is Y");
        CellarPen p = withCellar();
        for (int i = 0; i < 199; i++) {
            p.ground(0, 0);
        }
        Due.is("199", p.at(0, 1000), 199);
        Due.is("the 200th", p.ground(0, 7), 7);
        Due.is("200", p.at(0, 1000), 200);
        Due.is("it stands at 199", p.at(0, 199), 7);
        Due.says("UNKNOWN, and nothing is done, if one can't be, or the PAPER has 200.");
        Due.is("the 201st", p.ground(0, 9), UNKNOWN);
        Due.is("Y as it was", p.at(0, 1001), 7);
        Due.is("V as it was", p.at(0, 1002), 7);
        Due.is("200", p.at(0, 1000), 200);
        Due.says("or beyond 200.");
        Due.no("told beyond", p.write(0, 200, 1));
        Due.no("missing beyond", p.write(0, 200, UNKNOWN));
        Due.yes("the last one anew", p.write(0, 199, 1));
        Due.is("had 200", p.paper(0), 200);
        Due.is("room again", p.ground(0, 0), 7 + 7 - (8 * 7 + 16 * 7) / 64);
        for (int i = 1; i < 200; i++) {
            p.write(0, i, 0);
        }
        Due.is("200 with told ones", p.ground(0, 0), UNKNOWN);
    }

    private static void groundEnds() {
        Due.says("A STEP with GROUND g (-9999 .. 9999): the SAMPLE;");
        CellarPen p = withCellar();
        Due.is("10000", p.ground(0, 10000), UNKNOWN);
        Due.is("-10000", p.ground(0, -10000), UNKNOWN);
        Due.is("no step was done", p.at(0, 1000), 0);
        Due.is("9999", p.ground(0, 9999), 99);
        Due.is("V", p.at(0, 1002), 9999);
        CellarPen down = withCellar();
        Due.is("-9999", down.ground(0, -9999), -99);
        Due.is("V", down.at(0, 1002), -9999);
        Due.is("no such cellar", down.ground(1, 0), UNKNOWN);
    }

    private static void everySample() {
        Due.says("what 0 .. 199 that SAMPLE, 1000 how many, 1001 Y, 1002 V, 1003 CLIPPED ones,");
        CellarPen p = withCellar();
        for (int i = 0; i < 200; i++) {
            Due.is("no sample yet " + i, p.at(0, i), UNKNOWN);
            p.write(0, i, i - 100);
        }
        Due.is("the first", p.at(0, 0), -100);
        Due.is("the last", p.at(0, 199), 99);
        Due.is("200", p.at(0, 200), UNKNOWN);
        Due.is("-1", p.at(0, -1), UNKNOWN);
        Due.is("how many", p.at(0, 1000), 200);
        Due.is("clipped ones", p.at(0, 1003), 3);
        Due.is("999", p.at(0, 999), UNKNOWN);
        Due.is("1006", p.at(0, 1006), UNKNOWN);
    }

    private static void limitFromBothSides() {
        Due.says("but LIMIT or less LIMIT if it is beyond");
        int[] limits = {10, 99, 999};
        for (int limit : limits) {
            for (int by = -1; by <= 1; by++) {
                CellarPen p = withCellar();
                p.pen(0, 0, 0, limit);
                int due = Math.min(limit, limit + by);
                Due.is("up to " + limit + by, p.ground(0, limit + by), due);
                Due.is("clipped or not", p.at(0, 1003), by < 0 ? 0 : 1);
                Due.is("Y itself is not clipped", p.at(0, 1001), limit + by);
                CellarPen down = withCellar();
                down.pen(0, 0, 0, limit);
                Due.is("down to -" + limit + by, down.ground(0, -limit - by), -due);
                Due.is("clipped or not", down.at(0, 1003), by < 0 ? 0 : 1);
                Due.is("Y itself is not clipped", down.at(0, 1001), -limit - by);
            }
        }
    }

    private static void clipped() {
        Due.says("(CLIPPED is what is LIMIT or more as far as it is from 0)");
        CellarPen p = withCellar();
        Due.samples(p, 0, 98, 99, 100, -98, -99, -100, 0, UNKNOWN, 999, -999);
        Due.is("six of them", p.at(0, 1003), 6);
        p.pen(0, 8, 16, 999);
        Due.is("by the limit of now", p.at(0, 1003), 2);
        p.pen(0, 8, 16, 10);
        Due.is("all but 0 and the missing one", p.at(0, 1003), 8);
    }

    private static void toldSamples() {
        Due.says("SAMPLES may be told, too, and MISSING.");
        CellarPen p = withCellar();
        p.ground(0, 5);
        Due.yes("the next one", p.write(0, 1, 999));
        Due.is("as told, though the limit is 99", p.at(0, 1), 999);
        Due.is("Y is not told", p.at(0, 1001), 5);
        Due.is("V is not told", p.at(0, 1002), 5);
        Due.is("the pen goes on behind it", p.ground(0, 0), 5 + 5 - (8 * 5 + 16 * 5) / 64);
        Due.is("three", p.at(0, 1000), 3);
        Due.says("SAMPLE i is told (-999 .. 999; or UNKNOWN: MISSING), i that of one or the next one: true;");
        Due.yes("anew", p.write(0, 1, -999));
        Due.is("anew", p.at(0, 1), -999);
        Due.is("no more than ahead", p.at(0, 1000), 3);
        Due.no("the one behind the next", p.write(0, 4, 0));
        Due.no("-1", p.write(0, -1, 0));
        Due.no("1000", p.write(0, 1, 1000));
        Due.no("-1000", p.write(0, 1, -1000));
        Due.no("just above UNKNOWN", p.write(0, 1, UNKNOWN + 1));
        Due.no("just below UNKNOWN", p.write(0, 1, UNKNOWN - 1));
        Due.is("as it was", p.at(0, 1), -999);
        Due.is("as many as there were", p.at(0, 1000), 3);
    }

    private static void missingSamples() {
        Due.says("1004 MISSING ones, 1005 MARKS. UNKNOWN if there is none such (or it is MISSING), or another what.");
        CellarPen p = withCellar();
        Due.is("none of none", p.at(0, 1004), 0);
        p.write(0, 0, UNKNOWN);
        Due.is("it counts as a sample", p.at(0, 1000), 1);
        Due.is("it is missing", p.at(0, 1004), 1);
        Due.is("it is told as none", p.at(0, 0), UNKNOWN);
        Due.is("it is not clipped", p.at(0, 1003), 0);
        p.write(0, 0, 5);
        Due.is("no more missing", p.at(0, 1004), 0);
        p.write(0, 0, UNKNOWN);
        Due.is("missing again", p.at(0, 1004), 1);
        Due.is("Y is not missing", p.at(0, 1001), 0);
        Due.is("a paper of missing ones", p.paper(0), 1);
        Due.is("none on new paper", p.at(0, 1004), 0);
    }

    private static void newPaper() {
        Due.says("NEW PAPER: no SAMPLES, no MARKS; Y, V, and all else stay.");
        CellarPen p = withCellar();
        p.cellar(1, 1);
        p.pen(0, 3, 4, 50);
        p.clock(0, 77, 510, 520);
        p.habit(0, 9);
        p.ground(0, 60);
        p.ground(0, 0);
        p.ground(1, 1);
        p.mark(0, 0, 3);
        p.mark(0, 1, 4);
        int y = p.at(0, 1001);
        int v = p.at(0, 1002);
        Due.is("it had two", p.paper(0), 2);
        Due.is("no samples", p.at(0, 1000), 0);
        Due.is("no sample 0", p.at(0, 0), UNKNOWN);
        Due.is("no clipped ones", p.at(0, 1003), 0);
        Due.is("no marks", p.at(0, 1005), 0);
        Due.is("no time", p.time(0, 0, 2), NONE);
        Due.is("Y", p.at(0, 1001), y);
        Due.is("V", p.at(0, 1002), v);
        Due.is("the other's", p.at(1, 1000), 1);
        Due.is("an empty one", p.paper(0), 0);
        p.ground(0, 0);
        Due.is("damp and stiff", p.at(0, 1002), v - (3 * v + 4 * y) / 64);
        Due.is("limit", p.at(0, 0), 50);
        p.ground(0, 0);
        Due.yes("a minute that was pressed on the old one", p.mark(0, 0, 3));
        Due.yes("and the next one", p.mark(0, 1, 4));
        Due.is("the clock", p.time(0, 0, 0), 77 + 180 * 510 / 60);
        p.quake();
        p.read(0, 0, 0, 0);
        p.beat(0, 0, 0, 1);
        Due.is("the habit", p.size(0, 0, 0, 0), 9);
    }

    private static void backFromTwoOn() {
        Due.says("GROUND READ BACK at i (from 2 on)");
        CellarPen p = withCellar();
        p.pen(0, 0, 0, 999);
        Due.is("no samples", p.back(0, 2), UNKNOWN);
        for (int i = 0; i < 200; i++) {
            p.write(0, i, i % 2 == 0 ? 3 : -4);
        }
        Due.is("0", p.back(0, 0), UNKNOWN);
        Due.is("1", p.back(0, 1), UNKNOWN);
        Due.is("2", p.back(0, 2), 14);
        Due.is("199", p.back(0, 199), -14);
        Due.is("200", p.back(0, 200), UNKNOWN);
        Due.says("v(i) - v(i - 1) + (DAMP v(i - 1) + STIFF y(i - 1)) by 64 (towards 0)");
        int[] ys = {63, 64, 127, 128, -63, -64, -127, -128};
        for (int y : ys) {
            p.pen(0, 0, 1, 999);
            Due.samples(p, 0, y, y, y);
            Due.is("stiff, y " + y, p.back(0, 2), y / 64);
            p.pen(0, 1, 0, 999);
            Due.samples(p, 0, 0, y, y);
            Due.is("damp, v " + y, p.back(0, 2), -y + y / 64);
        }
        p.pen(0, 63, 63, 999);
        Due.samples(p, 0, -998, 998, -998);
        Due.is("the greatest swing", p.back(0, 2), -1996 - 1996 + (63 * 1996 + 63 * 998) / 64);
    }

    private static void backUnknown() {
        Due.says("UNKNOWN, if one of SAMPLES i - 2 .. i is MISSING or CLIPPED.");
        int[] bad = {UNKNOWN, 99, -99, 100, 999};
        for (int value : bad) {
            for (int at = 0; at <= 4; at++) {
                CellarPen p = withCellar();
                Due.samples(p, 0, 0, 0, 0, 0, 0);
                p.write(0, at, value);
                Due.is(value + " at " + at, p.back(0, 3), at >= 1 && at <= 3 ? UNKNOWN : 0);
            }
        }
        CellarPen p = withCellar();
        Due.samples(p, 0, 98, -98, 98);
        Due.is("98 is not clipped", p.back(0, 2), 196 + 196 + (8 * -196 + 16 * -98) / 64);
    }

    private static void swingRange() {
        Due.says("(0 .. 199, i from + 2 .. to; none UNKNOWN)");
        CellarPen p = withCellar();
        Due.samples(p, 0, UNKNOWN, 0, 0, 0, 99, 0, 0, 0, 0, -99);
        Due.is("three samples between", p.swing(0, 1, 3, 0), 4096);
        Due.is("the missing one ahead", p.swing(0, 0, 3, 0), NONE);
        Due.is("the clipped one behind", p.swing(0, 1, 4, 0), NONE);
        Due.is("the clipped one ahead", p.swing(0, 4, 8, 0), NONE);
        Due.is("four between", p.swing(0, 5, 8, 0), 4096);
        Due.is("the clipped one behind", p.swing(0, 5, 9, 0), NONE);
        Due.says("one can't be (from + 2 above to, beyond the SAMPLES; some UNKNOWN), or another what.");
        for (int what = 0; what <= 2; what++) {
            Due.is("two samples", p.swing(0, 1, 2, what), NONE);
            Due.is("one sample", p.swing(0, 1, 1, what), NONE);
            Due.is("to ahead of from", p.swing(0, 3, 1, what), NONE);
            Due.is("beyond", p.swing(0, 8, 10, what), NONE);
            Due.is("some unknown", p.swing(0, 0, 2, what), NONE);
            Due.is("from below 0", p.swing(0, -1, 1, what), NONE);
            Due.is("from + 2 wraps", p.swing(0, Integer.MAX_VALUE, 3, what), NONE);
            Due.is("the last int", p.swing(0, 1, Integer.MAX_VALUE, what), NONE);
        }
        Due.is("what 3", p.swing(0, 1, 3, 3), NONE);
        Due.is("what -1", p.swing(0, 1, 3, -1), NONE);
    }

    private static void swingOfNone() {
        Due.says("NONE if there are none (0 for what 0)");
        CellarPen p = withCellar();
        Due.samples(p, 0, 0, 0, 1);
        Due.is("how many", p.swing(0, 0, 2, 0), 0);
        Due.is("least damp", p.swing(0, 0, 2, 1), NONE);
        Due.is("least stiff", p.swing(0, 0, 2, 2), NONE);
    }

    /** PEN, a push, and what SWING finds from the ringing. */
    private static void ringing(int damp, int stiff, int count) {
        CellarPen p = withCellar();
        p.pen(0, damp, stiff, 999);
        p.ground(0, 0);
        p.ground(0, damp == 0 && stiff == 0 ? 20 : 500);
        for (int i = 2; i < count; i++) {
            p.ground(0, 0);
        }
        String pen = damp + ", " + stiff;
        // the push itself is read back at 1, which no SAMPLE from 0 on asks
        Due.yes("some couple " + pen, p.swing(0, 0, count - 1, 0) >= 1);
        Due.is("damp of " + pen, p.swing(0, 0, count - 1, 1), damp);
        Due.is("stiff of " + pen, p.swing(0, 0, count - 1, 2), stiff);
    }

    private static void swingEnds() {
        Due.says("all couples of DAMP and STIFF (0 .. 63 each) by which READ BACK is 0");
        ringing(0, 0, 40);
        ringing(0, 63, 40);
        ringing(63, 0, 4);
        ringing(63, 63, 40);
        Due.says("what 0 how many couples, 1 the least DAMP of these, 2 the least STIFF with this one.");
        CellarPen p = withCellar();
        Due.samples(p, 0, 0, 64, 64);
        // DAMP and STIFF together are 64: 1 and 63 up to 63 and 1; what is above to 127 by 64 is too much
        Due.is("how many", p.swing(0, 0, 2, 0), 63);
        Due.is("least damp", p.swing(0, 0, 2, 1), 1);
        Due.is("least stiff with it", p.swing(0, 0, 2, 2), 63);
        Due.samples(p, 0, 0, -64, -64);
        Due.is("how many below 0", p.swing(0, 0, 2, 0), 63);
        Due.is("least damp below 0", p.swing(0, 0, 2, 1), 1);
        Due.is("least stiff with it", p.swing(0, 0, 2, 2), 63);
        swingAtZero();
    }

    /** A SAMPLE of 0 leaves all to DAMP; the pull is 0 for what is less than 64 on either side. */
    private static void swingAtZero() {
        CellarPen p = withCellar();
        Due.samples(p, 0, 1, 0, -1);
        Due.is("63 by 64 is 0, below 0 too", p.swing(0, 0, 2, 0), 4096);
        Due.samples(p, 0, -1, 0, 1);
        Due.is("63 by 64 is 0", p.swing(0, 0, 2, 0), 4096);
        Due.samples(p, 0, -2, 0, 1);
        // DAMP 2 by 64 is 1 from DAMP 32 on
        Due.is("from damp 32 on", p.swing(0, 0, 2, 0), 32 * 64);
        Due.is("from damp 32 on", p.swing(0, 0, 2, 1), 32);
        Due.is("any stiff", p.swing(0, 0, 2, 2), 0);
        Due.samples(p, 0, 2, 0, -1);
        Due.is("below 0", p.swing(0, 0, 2, 0), 32 * 64);
        Due.is("below 0", p.swing(0, 0, 2, 1), 32);
        Due.samples(p, 0, 1, 1, 0);
        Due.is("y 1: no STIFF is 64", p.swing(0, 0, 2, 0), 0);
        Due.samples(p, 0, -1, -1, 0);
        Due.is("y -1: no STIFF is 64", p.swing(0, 0, 2, 0), 0);
        Due.samples(p, 0, 2, 2, 1);
        Due.is("y 2: STIFF 32 .. 63", p.swing(0, 0, 2, 0), 32 * 64);
        Due.is("y 2: STIFF 32", p.swing(0, 0, 2, 2), 32);
        Due.samples(p, 0, -2, -2, -1);
        Due.is("y -2: STIFF 32 .. 63", p.swing(0, 0, 2, 0), 32 * 64);
        Due.is("y -2: STIFF 32", p.swing(0, 0, 2, 2), 32);
    }

    private static void swingWholePaper() {
        Due.says("(0 .. 199, i from + 2 .. to; none UNKNOWN)");
        CellarPen p = withCellar();
        p.pen(0, 1, 40, 999);
        p.ground(0, 600);
        for (int i = 1; i < 200; i++) {
            p.ground(0, 0);
        }
        Due.is("the whole paper", p.swing(0, 0, 199, 0), 1);
        Due.is("damp", p.swing(0, 0, 199, 1), 1);
        Due.is("stiff", p.swing(0, 0, 199, 2), 40);
        Due.yes("the last three", p.swing(0, 197, 199, 0) >= 1);
        Due.is("the last two", p.swing(0, 198, 199, 0), NONE);
        Due.is("200", p.swing(0, 198, 200, 0), NONE);
    }
}
