/** The sentences of part 4, and of promises 29 to 36, that name a boundary. */
public final class SizeEdgeTest {
    private static final int NONE = CellarPen.NONE;
    private static final int UNKNOWN = CellarPen.UNKNOWN;

    public static void main(String[] args) {
        levels();
        levelOfZero();
        sizesOfReadings();
        habits();
        peakOfZero();
        sizesOfQuakes();
        quotientsDownwards();
        places();
        ownHabit();
        ownOfNone();
        ownDownwards();
        ownWithoutItsHabit();
        picks();
        eightTimes();
        noTimes();
        oddTimes();
        waits();
        partedOfEight();
        fourTimes();
        doubts();
        couplesOfDistances();
        couplesOnce();
        Due.finish("SizeEdgeTest");
    }

    private static void levels() {
        Due.says("10 times k and (it less 2 to the k) times 10 by 2 to the k, for the greatest k with 2 to the k not above it;");
        CellarPen p = new CellarPen();
        for (int k = 0; k <= 30; k++) {
            int power = 1 << k;
            Due.is("2 to the " + k, p.level(power), 10 * k);
            int last = power - 1 + power;
            Due.is("the last of " + k, p.level(last), 10 * k + (last - power) * 10L / power);
            Due.is("half more than 2 to the " + k, p.level(power + power / 2), 10 * k + (k == 0 ? 0 : 5));
        }
        Due.is("the last int", p.level(Integer.MAX_VALUE), 309);
        // a tenth of 1024 is 102.4
        Due.is("1126", p.level(1126), 100);
        Due.is("1127", p.level(1127), 101);
    }

    private static void levelOfZero() {
        Due.says("0 for 0.");
        CellarPen p = new CellarPen();
        Due.is("0", p.level(0), 0);
        Due.is("1", p.level(1), 0);
        Due.is("2", p.level(2), 10);
        Due.says("LEVEL of a number; NONE below 0.");
        Due.is("-1", p.level(-1), NONE);
        Due.is("the least int", p.level(Integer.MIN_VALUE), NONE);
    }

    /** A CELLAR at 0, 0 with a READING of one QUAKE of this PEAK. */
    private static CellarPen withPeak(int peak) {
        CellarPen p = new CellarPen();
        p.cellar(0, 0);
        p.quake();
        p.read(0, 0, 0, 0);
        p.beat(0, 0, 0, peak);
        return p;
    }

    private static void sizesOfReadings() {
        Due.says("LEVEL of the PEAK and 3 times the LEVEL of (DISTANCE and 1) by 2, and the CELLAR's HABIT");
        CellarPen p = withPeak(1);
        Due.is("DISTANCE 0, PEAK 1", p.size(0, 0, 0, 0), 0);
        Due.is("DISTANCE 1: LEVEL 10", p.size(0, 1, 0, 0), 15);
        // LEVEL of 3 is 15: 45 by 2 goes downwards
        Due.is("DISTANCE 2: LEVEL 15", p.size(0, 2, 0, 0), 22);
        Due.is("DISTANCE 3: LEVEL 20", p.size(0, 0, 3, 0), 30);
        // LEVEL of 56 is 57: 171 by 2
        Due.is("DISTANCE 55: LEVEL 57", p.size(0, 39, 39, 0), 85);
        CellarPen most = withPeak(999999);
        Due.is("PEAK 999999", most.size(0, 39, 39, 0), 199 + 85);
    }

    private static void habits() {
        Due.says("HABIT (-50 .. 50, 0 at first)");
        CellarPen p = withPeak(1);
        Due.is("0 at first", p.size(0, 0, 0, 0), 0);
        Due.no("51", p.habit(0, 51));
        Due.no("-51", p.habit(0, -51));
        Due.no("no cellar", p.habit(1, 5));
        Due.no("no cellar", p.habit(-1, 5));
        Due.is("as it was", p.size(0, 0, 0, 0), 0);
        Due.yes("50", p.habit(0, 50));
        Due.is("50", p.size(0, 0, 0, 0), 50);
        Due.yes("-50", p.habit(0, -50));
        Due.is("-50", p.size(0, 0, 0, 0), -50);
        Due.yes("0", p.habit(0, 0));
        Due.is("0", p.size(0, 0, 0, 0), 0);
    }

    private static void peakOfZero() {
        Due.says("PEAK 0 tells none.");
        CellarPen p = withPeak(0);
        p.habit(0, 50);
        Due.is("its own", p.size(0, 5, 5, 0), UNKNOWN);
        Due.is("of the quake", p.size(0, 5, 5, NONE), UNKNOWN);
        p.cellar(0, 0);
        p.read(0, 1, 0, 0);
        p.beat(0, 1, 0, 8);
        Due.is("of the quake, by the other one", p.size(0, 0, 0, NONE), 30);
        p.beat(0, 0, 0, 1);
        Due.is("PEAK 1 tells one", p.size(0, 0, 0, 0), 50);
        Due.is("and of the quake", p.size(0, 0, 0, NONE), 40);
        p.read(0, 0, 7, 7);
        Due.is("read anew it is 0 again", p.size(0, 0, 0, NONE), 30);
    }

    private static void sizesOfQuakes() {
        Due.says("SIZE of a QUAKE at a CELL: all of these (that tell one) added, by their number.");
        CellarPen p = new CellarPen();
        p.quake();
        Due.is("no cellars", p.size(0, 0, 0, NONE), UNKNOWN);
        int sum = 0;
        for (int c = 0; c < 6; c++) {
            p.cellar(0, 0);
            Due.is("no reading of " + c, p.size(0, 0, 0, c), UNKNOWN);
            p.read(0, c, 0, 0);
            p.beat(0, c, 0, 1 << c);
            sum += 10 * c;
            Due.is("of " + (c + 1), p.size(0, 0, 0, NONE), sum / (c + 1));
        }
        Due.says("or of its READING of a CELLAR; UNKNOWN if there is none, or one can't be.");
        Due.is("no cellar 6", p.size(0, 0, 0, 6), UNKNOWN);
        Due.is("no cellar -2", p.size(0, 0, 0, -2), UNKNOWN);
        Due.is("no quake", p.size(1, 0, 0, NONE), UNKNOWN);
        Due.is("no quake", p.size(-1, 0, 0, 0), UNKNOWN);
        int[][] beyond = {{-1, 0}, {0, -1}, {40, 0}, {0, 40}};
        for (int[] cell : beyond) {
            Due.is("beyond, of the quake", p.size(0, cell[0], cell[1], NONE), UNKNOWN);
            Due.is("beyond, of a reading", p.size(0, cell[0], cell[1], 0), UNKNOWN);
        }
    }

    private static void quotientsDownwards() {
        Due.says("Quotients go downwards (to the lesser one), where nothing else is told.");
        CellarPen p = withPeak(1);
        p.cellar(0, 0);
        p.read(0, 1, 0, 0);
        p.beat(0, 1, 0, 1);
        p.habit(0, -1);
        Due.is("-1 by 2", p.size(0, 0, 0, NONE), -1);
        p.habit(0, -2);
        Due.is("-2 by 2", p.size(0, 0, 0, NONE), -1);
        p.habit(0, -3);
        Due.is("-3 by 2", p.size(0, 0, 0, NONE), -2);
        p.habit(0, 1);
        Due.is("1 by 2", p.size(0, 0, 0, NONE), 0);
    }

    private static void places() {
        Due.says("The PLACE of a QUAKE: true; false if one can't be.");
        CellarPen p = withPeak(1);
        p.cellar(39, 0);
        p.read(0, 1, 0, 0);
        p.beat(0, 1, 0, 1);
        Due.is("no place yet", p.own(0), UNKNOWN);
        int[][] beyond = {{-1, 0}, {0, -1}, {40, 0}, {0, 40}};
        for (int[] cell : beyond) {
            Due.no("beyond", p.place(0, cell[0], cell[1]));
        }
        Due.no("no quake", p.place(1, 0, 0));
        Due.no("no quake", p.place(-1, 0, 0));
        Due.is("no place still", p.own(0), UNKNOWN);
        // DISTANCE 39: LEVEL of 40 is 52, 156 by 2
        Due.yes("a corner", p.place(0, 0, 0));
        Due.is("at its own cell", p.own(0), 78);
        Due.no("a refused one", p.place(0, 40, 0));
        Due.is("the place stays", p.own(0), 78);
        Due.yes("another corner", p.place(0, 39, 0));
        Due.is("at the other's", p.own(0), -78);
        Due.yes("as far from both", p.place(0, 0, 39));
        Due.is("39 and 55", p.own(0), 85 - 78);
    }

    private static void ownHabit() {
        Due.says("with a READING of it and of another one that tell SIZES: SIZE by all others less SIZE by it without its HABIT");
        CellarPen p = withPeak(8);
        p.place(0, 0, 0);
        Due.is("no other one", p.own(0), UNKNOWN);
        p.cellar(0, 0);
        Due.is("no reading of the other", p.own(0), UNKNOWN);
        p.read(0, 1, 0, 0);
        Due.is("PEAK 0 of the other", p.own(0), UNKNOWN);
        p.beat(0, 1, 0, 4);
        Due.is("20 less 30", p.own(0), -10);
        Due.is("30 less 20", p.own(1), 10);
        p.beat(0, 0, 0, 0);
        Due.is("PEAK 0 of its own", p.own(0), UNKNOWN);
        Due.is("PEAK 0 of the other", p.own(1), UNKNOWN);
    }

    private static void ownOfNone() {
        Due.says("OWN HABIT of a CELLAR; UNKNOWN if there is none, or one can't be.");
        CellarPen p = new CellarPen();
        Due.is("no cellar", p.own(0), UNKNOWN);
        p.cellar(0, 0);
        Due.is("no quake", p.own(0), UNKNOWN);
        p.quake();
        p.place(0, 0, 0);
        Due.is("no reading", p.own(0), UNKNOWN);
        Due.is("no cellar 1", p.own(1), UNKNOWN);
        Due.is("no cellar -1", p.own(-1), UNKNOWN);
    }

    private static void ownDownwards() {
        Due.says("added, by their number.");
        CellarPen p = new CellarPen();
        p.cellar(0, 0);
        p.cellar(0, 0);
        for (int q = 0; q < 16; q++) {
            p.quake();
            p.read(q, 0, 0, 0);
            p.read(q, 1, 0, 0);
            // the other one's LEVEL is less by 10 in the first QUAKE, and the same in all others
            p.beat(q, 0, 0, q == 0 ? 4 : 2);
            p.beat(q, 1, 0, 2);
            p.place(q, 20, 20);
            Due.is("-10 by " + (q + 1), p.own(0), Math.floorDiv(-10, q + 1));
            Due.is("10 by " + (q + 1), p.own(1), 10 / (q + 1));
        }
    }

    private static void ownWithoutItsHabit() {
        Due.says("SIZE by it without its HABIT");
        CellarPen p = withPeak(8);
        p.cellar(0, 0);
        p.cellar(0, 0);
        p.read(0, 1, 0, 0);
        p.beat(0, 1, 0, 8);
        p.read(0, 2, 0, 0);
        p.beat(0, 2, 0, 8);
        p.place(0, 0, 0);
        Due.is("all alike", p.own(0), 0);
        p.habit(0, 50);
        Due.is("its own is not asked", p.own(0), 0);
        Due.is("but it is for others", p.own(1), 25);
        p.habit(0, -50);
        Due.is("its own is not asked", p.own(0), 0);
        Due.is("but it is for others", p.own(1), -25);
        p.habit(0, -49);
        Due.is("the others' size goes downwards itself", p.own(1), Math.floorDiv(30 - 49 + 30, 2) - 30);
    }

    private static void picks() {
        Due.says("NONE - 1 if one can't be (not above the last one, above 9999999), or it has eight.");
        CellarPen p = new CellarPen();
        Due.is("-2", p.pick(-2), -2);
        Due.is("the least int", p.pick(Integer.MIN_VALUE), -2);
        Due.is("10000000", p.pick(10000000), -2);
        Due.is("none has come", p.look(4), 0);
        Due.is("0", p.pick(0), 1);
        Due.is("0 again", p.pick(0), -2);
        Due.is("1", p.pick(1), 2);
        Due.is("0 is below", p.pick(0), -2);
        Due.is("9999999", p.pick(9999999), 3);
        Due.is("nothing is above", p.pick(9999999), -2);
        Due.is("10000000", p.pick(10000000), -2);
        Due.is("three", p.look(4), 3);
        Due.says("A time comes behind the row (NONE: it is empty then): how many it has;");
        Due.is("empty then", p.pick(NONE), 0);
        Due.is("empty", p.look(4), 0);
        Due.is("empty again", p.pick(NONE), 0);
        Due.is("any time is above none", p.pick(0), 1);
    }

    private static void eightTimes() {
        Due.says("or it has eight.");
        CellarPen p = new CellarPen();
        for (int i = 1; i <= 8; i++) {
            Due.is("time " + i, p.pick(10 * i), i);
        }
        Due.is("the ninth", p.pick(90), NONE - 1);
        Due.is("eight still", p.look(4), 8);
        Due.is("all ways", p.parted(9999), 105);
        Due.is("empty then", p.pick(NONE), 0);
        Due.is("room again", p.pick(5), 1);
    }

    private static void noTimes() {
        Due.says("(no times: one way)");
        CellarPen p = new CellarPen();
        Due.is("w 0", p.parted(0), 1);
        Due.is("w 9999", p.parted(9999), 1);
        p.pick(5);
        p.pick(NONE);
        Due.is("none again", p.parted(0), 1);
        Due.says("NONE if one can't be.");
        Due.is("w -1", p.parted(-1), NONE);
        Due.is("w 10000", p.parted(10000), NONE);
    }

    private static void oddTimes() {
        Due.says("0 for an odd number of times.");
        CellarPen p = new CellarPen();
        for (int i = 1; i <= 7; i++) {
            p.pick(i);
            if (i % 2 == 1) {
                Due.is(i + " times, w 9999", p.parted(9999), 0);
                Due.is(i + " times, w 0", p.parted(0), 0);
            }
        }
    }

    private static void waits() {
        Due.says("so that each S is behind its P, and each wait is at most W");
        CellarPen p = new CellarPen();
        p.pick(100);
        p.pick(101);
        Due.is("w 0", p.parted(0), 0);
        Due.is("w 1", p.parted(1), 1);
        p.pick(NONE);
        p.pick(0);
        p.pick(9999);
        Due.is("w 9998", p.parted(9998), 0);
        Due.is("w 9999", p.parted(9999), 1);
        p.pick(NONE);
        p.pick(0);
        p.pick(10000);
        Due.is("too far", p.parted(9999), 0);
        p.pick(NONE);
        p.pick(0);
        p.pick(9999999);
        Due.is("as far as can be", p.parted(9999), 0);
    }

    private static void partedOfEight() {
        Due.says("a row of up to 8 times (tenths, rising) on one PAPER: all ways to put them in couples P, S (all of them)");
        CellarPen p = new CellarPen();
        int[] all = {1, 0, 1, 0, 3, 0, 15, 0, 105};
        // waits of 20 at most, 10 from one to the next: a time goes with the next one, or it and the next one go two off
        int[] near = {1, 0, 1, 0, 2, 0, 3, 0, 5};
        int[] next = {1, 0, 1, 0, 1, 0, 1, 0, 1};
        for (int i = 0; i <= 8; i++) {
            if (i > 0) {
                p.pick(1000 + 10 * i);
            }
            Due.is(i + " times, all", p.parted(70), all[i]);
            Due.is(i + " times, two off", p.parted(20), near[i]);
            Due.is(i + " times, neighbours", p.parted(10), next[i]);
            Due.is(i + " times, w 9", p.parted(9), i == 0 ? 1 : 0);
        }
        Due.is("first and last can't be a couple", p.parted(69), 105 - 15);
    }

    private static CellarPen withTimes(int... times) {
        CellarPen p = new CellarPen();
        for (int t : times) {
            p.pick(t);
        }
        return p;
    }

    private static void fourTimes() {
        Due.says("COUPLES of just four times for two DISTANCES and a doubt u");
        CellarPen p = new CellarPen();
        for (int i = 0; i <= 8; i++) {
            Due.is(i + " times", p.couples(0, 0, 999), i == 4 ? 3 : NONE);
            p.pick(i);
        }
        p.pick(NONE);
        Due.is("none again", p.couples(0, 0, 999), NONE);
        Due.says("COUPLES for two DISTANCES (0 .. 55) and a doubt u 0 .. 999: how many ways; NONE if there are not four times");
        CellarPen four = withTimes(0, 1, 2, 3);
        int[][] bad = {{-1, 0, 0}, {56, 0, 0}, {0, -1, 0}, {0, 56, 0}, {0, 0, -1}, {0, 0, 1000}};
        for (int[] row : bad) {
            Due.is("can't be " + row[0] + ", " + row[1] + ", " + row[2], four.couples(row[0], row[1], row[2]), NONE);
        }
        Due.is("0, 0, 0", four.couples(0, 0, 0), 0);
        Due.is("55, 55, 999", four.couples(55, 55, 999), 3);
    }

    private static void doubts() {
        Due.says("the wait of one couple is not farther than u from (DS - DP) times one of the DISTANCES");
        // waits: 70 and 35; 3000 and 2965; 3035 and 2930
        CellarPen p = withTimes(0, 70, 3000, 3035);
        Due.is("just so", p.couples(10, 5, 0), 1);
        Due.is("a wait too long by 7", p.couples(9, 5, 6), 0);
        Due.is("within 7", p.couples(9, 5, 7), 1);
        Due.is("a wait too short by 7", p.couples(11, 5, 6), 0);
        Due.is("within 7", p.couples(11, 5, 7), 1);
        Due.is("the other too long by 7", p.couples(10, 4, 6), 0);
        Due.is("within 7", p.couples(10, 4, 7), 1);
        Due.is("the other too short by 7", p.couples(10, 6, 6), 0);
        Due.is("within 7", p.couples(10, 6, 7), 1);
        p.waves(10, 11);
        Due.is("by the waves of now", p.couples(55, 35, 14), 0);
        Due.is("by the waves of now", p.couples(55, 35, 15), 1);
        CellarPen far = withTimes(0, 1, 9999998, 9999999);
        Due.is("the longest waits", far.couples(55, 55, 999), 1);
    }

    private static void couplesOfDistances() {
        Due.says("that of the other from the other one's.");
        CellarPen p = withTimes(0, 70, 3000, 3035);
        Due.is("10 and 5", p.couples(10, 5, 0), 1);
        Due.is("5 and 10", p.couples(5, 10, 0), 1);
        Due.is("10 and 10", p.couples(10, 10, 0), 0);
        Due.is("5 and 5", p.couples(5, 5, 0), 0);
        Due.says("ways (of the three, W not asked)");
        // waits 0-1 and 2-3: 10, 10; 0-2 and 1-3: 20, 20; 0-3 and 1-2: 30, 10
        CellarPen even = withTimes(0, 70, 140, 210);
        Due.is("the first way", even.couples(10, 10, 0), 1);
        Due.is("the second way", even.couples(20, 20, 0), 1);
        Due.is("the third way", even.couples(30, 10, 0), 1);
        Due.is("the first and the second", even.couples(15, 15, 35), 2);
        Due.is("all three", even.couples(20, 20, 70), 3);
        Due.is("a doubt less by one", even.couples(20, 20, 69), 1);
        even.parted(0);
        Due.is("w is not asked", even.couples(20, 20, 70), 3);
    }

    private static void couplesOnce() {
        Due.says("how many ways;");
        CellarPen late = withTimes(9000, 9070, 9140, 9210);
        Due.is("waits, not times: the first way", late.couples(10, 10, 0), 1);
        Due.is("waits, not times: the second way", late.couples(20, 20, 0), 1);
        Due.is("waits, not times: the third way", late.couples(30, 10, 0), 1);
        CellarPen p = withTimes(0, 70, 140, 210);
        Due.is("either DISTANCE for either couple is one way still", p.couples(10, 10, 5), 1);
        Due.is("three ways at most", p.couples(20, 20, 999), 3);
    }
}
