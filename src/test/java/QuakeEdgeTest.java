/** The sentences of part 3, and of promises 20 to 28, that name a boundary. */
public final class QuakeEdgeTest {
    private static final int NONE = CellarPen.NONE;

    public static void main(String[] args) {
        waves();
        sixteenQuakes();
        oneReadingForACellar();
        readAnew();
        timesOfP();
        timesOfS();
        secondNotRead();
        beats();
        bothEndsOfP();
        bothEndsOfS();
        oneTimeForAll();
        timeAheadOfAll();
        farthestCells();
        cellsByYThenX();
        setsWithoutReadings();
        setsOfCellars();
        fitOfAll();
        wrongAlone();
        noneWrong();
        sectors();
        noSector();
        slides();
        Due.finish("QuakeEdgeTest");
    }

    private static CellarPen with(int x, int y) {
        CellarPen p = new CellarPen();
        p.cellar(x, y);
        p.quake();
        return p;
    }

    private static void waves() {
        Due.says("P takes DP tenths a CELL of DISTANCE, S takes DS (1 .. 99; 10 and 17 at first; DS above DP).");
        CellarPen p = with(0, 0);
        p.cellar(0, 0);
        // P at 0 tells O for the CELL 10, 0; S and P of the other, which is as far, must be late by 70
        p.read(0, 0, 1000, 1000);
        p.second(0, 0, 1070, 1070);
        Due.is("70 later at 10 cells", p.fit(0, 10, 0), 1);
        Due.is("not at 9", p.fit(0, 9, 0), 0);
        CellarPen two = with(0, 0);
        two.cellar(39, 0);
        two.read(0, 0, 1000, 1000);
        two.read(0, 1, 1010, 1010);
        Due.is("P takes 10", two.fit(0, 19, 0), 1);
        int[][] bad = {{0, 1}, {0, 17}, {5, 5}, {17, 10}, {99, 99}, {98, 100}, {-1, 1}, {99, 100}, {1, 1}};
        for (int[] both : bad) {
            Due.no("can't be " + both[0] + ", " + both[1], p.waves(both[0], both[1]));
        }
        Due.is("nothing is done", p.fit(0, 10, 0), 1);
        Due.yes("1, 2", p.waves(1, 2));
        Due.is("no cell is 70 off", p.fits(0, 1, 0), 0);
        Due.yes("1, 99", p.waves(1, 99));
        p.second(0, 0, 1098, 1098);
        Due.is("98 later at 1 cell", p.fit(0, 1, 0), 1);
        Due.yes("98, 99", p.waves(98, 99));
        Due.is("98 cells are too many", p.fits(0, 1, 0), 0);
    }

    private static void sixteenQuakes() {
        Due.says("QUAKES 0 .. 15 as they come have READINGS");
        CellarPen p = new CellarPen();
        p.cellar(0, 0);
        for (int q = 0; q < 16; q++) {
            Due.is("not yet " + q, p.fits(q, 1, 0), NONE);
            Due.is("quake " + q, p.quake(), q);
            Due.is("now " + q, p.fits(q, 1, 0), 1600);
        }
        Due.says("A QUAKE: its number; NONE if there are 16.");
        Due.is("the 17th", p.quake(), NONE);
        Due.is("still 16", p.look(1), 16);
        Due.no("no quake 16", p.read(16, 0, 0, 0));
        Due.yes("quake 15", p.read(15, 0, 0, 0));
        Due.yes("its own reading", p.second(15, 0, 0, 0));
        Due.no("not that of quake 0", p.second(0, 0, 0, 0));
    }

    private static void oneReadingForACellar() {
        Due.says("have READINGS, one for a CELLAR at most");
        CellarPen p = new CellarPen();
        p.quake();
        for (int c = 0; c < 6; c++) {
            Due.no("no cellar " + c, p.read(0, c, 100, 100));
            p.cellar(0, c);
            Due.yes("cellar " + c, p.read(0, c, 100, 100));
        }
        Due.no("no cellar 6", p.read(0, 6, 100, 100));
        Due.no("no cellar -1", p.read(0, -1, 100, 100));
        CellarPen one = with(0, 0);
        one.read(0, 0, 100, 100);
        one.second(0, 0, 500, 500);
        one.read(0, 0, 500, 500);
        one.second(0, 0, 500, 500);
        Due.is("the first one is no more", one.fits(0, 1, 0), 1);
    }

    private static void readAnew() {
        Due.says("anew: S, BEAT, PEAK are not read, 0");
        CellarPen p = with(10, 10);
        p.read(0, 0, 100, 100);
        p.second(0, 0, 100, 100);
        p.beat(0, 0, 1, 900);
        Due.no("a refused one", p.read(0, 0, 101, 100));
        Due.is("S as it was", p.fits(0, 1, 0), 1);
        Due.is("BEAT as it was", p.slides(0, 0, 10), 9);
        Due.yes("PEAK as it was", p.size(0, 10, 10, 0) > 0);
        Due.yes("anew", p.read(0, 0, 100, 100));
        Due.is("S is not read", p.fits(0, 1, 0), 1600);
        Due.is("BEAT is 0", p.slides(0, 0, 10), 15);
        Due.is("PEAK is 0", p.size(0, 10, 10, 0), CellarPen.UNKNOWN);
    }

    private static void timesOfP() {
        Due.says("P of a READING (0 .. 9999999, from not above to;");
        CellarPen p = with(0, 0);
        Due.no("-1", p.read(0, 0, -1, 5));
        Due.no("NONE for both", p.read(0, 0, NONE, NONE));
        Due.no("10000000", p.read(0, 0, 5, 10000000));
        Due.no("from above to", p.read(0, 0, 6, 5));
        Due.no("no quake", p.read(1, 0, 5, 6));
        Due.no("no cellar", p.read(0, 1, 5, 6));
        Due.no("there is no reading", p.second(0, 0, 5, 6));
        Due.yes("0, 0", p.read(0, 0, 0, 0));
        Due.yes("both the last", p.read(0, 0, 9999999, 9999999));
        Due.yes("both ends", p.read(0, 0, 0, 9999999));
    }

    private static void timesOfS() {
        Due.says("S of a READING (likewise; of one whose P was read; from NONE: not read)");
        CellarPen p = with(0, 0);
        p.cellar(1, 1);
        Due.no("P was not read", p.second(0, 0, 5, 6));
        Due.no("P was not read", p.second(0, 0, NONE, 6));
        p.read(0, 0, 0, 9999999);
        Due.no("P of the other was not read", p.second(0, 1, 5, 6));
        Due.no("-2", p.second(0, 0, -2, 5));
        Due.no("to is NONE", p.second(0, 0, 0, NONE));
        Due.no("10000000", p.second(0, 0, 5, 10000000));
        Due.no("from above to", p.second(0, 0, 6, 5));
        Due.yes("0, 0", p.second(0, 0, 0, 0));
        Due.yes("both the last", p.second(0, 0, 9999999, 9999999));
        Due.yes("both ends", p.second(0, 0, 0, 9999999));
    }

    private static void secondNotRead() {
        Due.says("S NONE: not read");
        CellarPen p = with(0, 0);
        p.read(0, 0, 100, 100);
        Due.is("not read at first", p.fits(0, 1, 0), 1600);
        p.second(0, 0, 100, 100);
        Due.is("read", p.fits(0, 1, 0), 1);
        Due.no("refused", p.second(0, 0, 3, 2));
        Due.is("as it was", p.fits(0, 1, 0), 1);
        Due.yes("NONE", p.second(0, 0, NONE, NONE));
        Due.is("not read", p.fits(0, 1, 0), 1600);
    }

    private static void beats() {
        Due.says("BEAT 1 up, -1 down, 0 not read, PEAK 0 .. 999999.");
        CellarPen p = with(10, 10);
        Due.no("there is no reading", p.beat(0, 0, 1, 5));
        p.read(0, 0, 5, 5);
        Due.no("2", p.beat(0, 0, 2, 5));
        Due.no("-2", p.beat(0, 0, -2, 5));
        Due.no("peak -1", p.beat(0, 0, 1, -1));
        Due.no("peak 1000000", p.beat(0, 0, 1, 1000000));
        Due.is("no beat was read", p.slides(0, 0, 10), 15);
        Due.is("no peak was read", p.size(0, 10, 10, 0), CellarPen.UNKNOWN);
        Due.yes("up", p.beat(0, 0, 1, 0));
        Due.is("up", p.slides(0, 0, 10), 9);
        Due.is("peak 0 tells none", p.size(0, 10, 10, 0), CellarPen.UNKNOWN);
        Due.yes("down", p.beat(0, 0, -1, 1));
        Due.is("down", p.slides(0, 0, 10), 6);
        Due.is("peak 1", p.size(0, 10, 10, 0), 0);
        Due.yes("not read", p.beat(0, 0, 0, 999999));
        Due.is("not read", p.slides(0, 0, 10), 15);
        Due.is("peak 999999", p.size(0, 10, 10, 0), 199);
    }

    /** Two CELLARS 20 from one another; the first's P tells O just so. Whether the CELL between fits. */
    private static int second(int from, int to) {
        CellarPen p = with(0, 0);
        p.cellar(20, 0);
        p.read(0, 0, 1050, 1050);
        p.read(0, 1, from, to);
        return p.fit(0, 5, 0);
    }

    private static void bothEndsOfP() {
        Due.says("P at each lies in O + DP DISTANCE, S likewise in O + DS DISTANCE (both ends in)");
        // O is 1000; P comes to the other one, 15 CELLS off, at 1150
        Due.is("just so", second(1150, 1150), 1);
        Due.is("from the end on", second(1150, 1200), 1);
        Due.is("up to the end", second(1100, 1150), 1);
        Due.is("from above", second(1151, 1200), 0);
        Due.is("to below", second(1100, 1149), 0);
        Due.is("from 0", second(0, 1150), 1);
        Due.is("to the last", second(1150, 9999999), 1);
    }

    private static void bothEndsOfS() {
        Due.says("S likewise in O + DS DISTANCE (both ends in)");
        int[][] due = {{85, 85, 1}, {85, 90, 1}, {80, 85, 1}, {86, 90, 0}, {80, 84, 0}};
        for (int[] span : due) {
            CellarPen p = with(0, 0);
            // O is 1000, S comes to the CELLAR, 5 CELLS off, at 1085
            p.read(0, 0, 1050, 1050);
            p.second(0, 0, 1000 + span[0], 1000 + span[1]);
            Due.is("S " + span[0] + " .. " + span[1], p.fit(0, 5, 0), span[2]);
        }
        CellarPen wide = with(0, 0);
        // by P, O is 1000 .. 1010; by S it is 1010 .. 1020, then 1011 .. 1020
        wide.read(0, 0, 1050, 1060);
        wide.second(0, 0, 1095, 1105);
        Due.is("one O is left", wide.fit(0, 5, 0), 1);
        wide.second(0, 0, 1096, 1105);
        Due.is("none is left", wide.fit(0, 5, 0), 0);
        wide.second(0, 0, 1075, 1085);
        Due.is("one O is left, the first", wide.fit(0, 5, 0), 1);
        wide.second(0, 0, 1075, 1084);
        Due.is("none is left", wide.fit(0, 5, 0), 0);
    }

    private static void oneTimeForAll() {
        Due.says("one O for all.");
        CellarPen p = new CellarPen();
        for (int c = 0; c < 3; c++) {
            p.cellar(10, 10);
        }
        p.quake();
        // each two of them have a time, but not all three
        p.read(0, 0, 100, 200);
        p.read(0, 1, 200, 300);
        p.read(0, 2, 150, 250);
        Due.is("200 for all", p.fit(0, 10, 10), 1);
        p.read(0, 2, 201, 250);
        Due.is("201 for 1 and 2 alone", p.fit(0, 10, 10), 0);
        Due.is("0 and 1", p.fits(0, 3, 0), 1600);
        Due.is("1 and 2", p.fits(0, 6, 0), 1600);
        Due.is("0 and 2", p.fits(0, 5, 0), 0);
    }

    private static void timeAheadOfAll() {
        Due.says("there is a time O");
        CellarPen p = with(0, 0);
        p.cellar(39, 39);
        // the farthest CELL, at time 0: O is ahead of it
        p.read(0, 0, 0, 0);
        p.second(0, 0, 7 * 55, 7 * 55);
        Due.is("O is -550", p.fit(0, 39, 39), 1);
        CellarPen late = with(0, 0);
        late.read(0, 0, 9999999, 9999999);
        late.second(0, 0, 9999999, 9999999);
        Due.is("O is the last time", late.fit(0, 0, 0), 1);
        Due.is("at the cellar's cell alone", late.fits(0, 1, 0), 1);
    }

    private static void farthestCells() {
        Due.says("P takes DP tenths a CELL of DISTANCE");
        CellarPen p = with(0, 0);
        p.waves(98, 99);
        p.read(0, 0, 9999999, 9999999);
        p.second(0, 0, 9999999, 9999999);
        Due.is("the cell itself", p.fits(0, 1, 0), 1);
        CellarPen far = with(0, 0);
        far.waves(1, 99);
        far.read(0, 0, 55, 55);
        far.second(0, 0, 55 * 99, 55 * 99);
        Due.is("55 off: the corner", far.fits(0, 1, 0), 1);
        Due.is("55 off: the corner", far.fits(0, 1, 1), 1599);
        far.second(0, 0, 55 * 99 + 1, 55 * 99 + 1);
        Due.is("nothing lies farther", far.fits(0, 1, 0), 0);
        Due.is("no first one", far.fits(0, 1, 1), NONE);
    }

    private static void cellsByYThenX() {
        Due.says("FITS: all such CELLS, by y, then x.");
        CellarPen p = with(10, 10);
        p.read(0, 0, 1000, 1000);
        p.second(0, 0, 1007, 1007);
        // DISTANCE 1: the eight CELLS around
        int[] due = {409 - 40, 410 - 40, 411 - 40, 409, 411, 409 + 40, 410 + 40, 411 + 40};
        Due.is("eight", p.fits(0, 1, 0), 8);
        for (int i = 0; i < due.length; i++) {
            Due.is("cell " + i, p.fits(0, 1, 1 + i), due[i]);
        }
        Due.says("what 0 how many, 1 + i CELL i (i 0 .. 1599, 40 y + x). NONE if one can't be, there is none such");
        Due.is("no ninth", p.fits(0, 1, 9), NONE);
        Due.is("1600", p.fits(0, 1, 1600), NONE);
        Due.is("1601", p.fits(0, 1, 1601), NONE);
        Due.is("-1", p.fits(0, 1, -1), NONE);
        p.second(0, 0, NONE, NONE);
        Due.is("all", p.fits(0, 1, 0), 1600);
        Due.is("the first of all", p.fits(0, 1, 1), 0);
        Due.is("the 41st of all", p.fits(0, 1, 41), 40);
        Due.is("the last of all", p.fits(0, 1, 1600), 1599);
        Due.is("1601", p.fits(0, 1, 1601), NONE);
    }

    private static void setsWithoutReadings() {
        Due.says("those that have no READING tell nothing; none at all: all CELLS fit)");
        CellarPen p = new CellarPen();
        p.quake();
        Due.is("no cellars", p.fits(0, 63, 0), 1600);
        Due.is("no cellars", p.fits(0, 1, 1600), 1599);
        p.cellar(0, 0);
        p.cellar(1, 1);
        p.quake();
        Due.is("no readings", p.fits(0, 3, 0), 1600);
        p.read(0, 0, 100, 100);
        p.second(0, 0, 100, 100);
        Due.is("its own", p.fits(0, 1, 0), 1);
        Due.is("of the other", p.fits(0, 2, 0), 1600);
        Due.is("of both", p.fits(0, 3, 0), 1);
        Due.is("of all", p.fits(0, 63, 0), 1);
        Due.is("of all but it", p.fits(0, 62, 0), 1600);
        Due.is("of another quake", p.fits(1, 63, 0), 1600);
    }

    private static void setsOfCellars() {
        Due.says("FITS for a set of CELLARS (1 .. 63;");
        CellarPen p = new CellarPen();
        p.quake();
        for (int c = 0; c < 6; c++) {
            p.cellar(5 * c, 20);
            p.read(0, c, 1000, 1000);
            p.second(0, c, 1000, 1000);
        }
        for (int c = 0; c < 6; c++) {
            Due.is("cellar " + c + " alone", p.fits(0, 1 << c, 0), 1);
            Due.is("its cell", p.fits(0, 1 << c, 1), 800 + 5 * c);
            Due.is("not with the others", p.fits(0, 63 & ~(1 << c), 0), 0);
        }
        Due.is("0", p.fits(0, 0, 0), NONE);
        Due.is("64", p.fits(0, 64, 0), NONE);
        Due.is("-1", p.fits(0, -1, 0), NONE);
        Due.is("65", p.fits(0, 65, 0), NONE);
        Due.is("no quake", p.fits(1, 1, 0), NONE);
    }

    private static void fitOfAll() {
        Due.says("Whether a CELL FITS (of all its READINGS): 1 or 0; NONE if one can't be.");
        CellarPen p = with(0, 0);
        p.cellar(39, 39);
        Due.is("no readings", p.fit(0, 39, 0), 1);
        p.read(0, 1, 500, 500);
        p.second(0, 1, 500, 500);
        Due.is("at the corner", p.fit(0, 39, 39), 1);
        Due.is("at the other one", p.fit(0, 0, 0), 0);
        p.read(0, 0, 0, 0);
        Due.is("with both", p.fit(0, 39, 39), 0);
        int[][] beyond = {{-1, 0}, {0, -1}, {40, 0}, {0, 40}};
        for (int[] cell : beyond) {
            Due.is("beyond", p.fit(0, cell[0], cell[1]), NONE);
        }
        Due.is("no quake", p.fit(1, 0, 0), NONE);
        Due.is("no quake", p.fit(-1, 0, 0), NONE);
    }

    /** Four CELLARS that read a QUAKE at 20, 20 rightly, O being 1000. */
    private static CellarPen agreeing() {
        CellarPen p = new CellarPen();
        int[][] cells = {{10, 20}, {30, 20}, {20, 10}, {20, 35}};
        p.quake();
        for (int c = 0; c < 4; c++) {
            int far = Math.abs(cells[c][0] - 20) + Math.abs(cells[c][1] - 20);
            p.cellar(cells[c][0], cells[c][1]);
            p.read(0, c, 1000 + 10 * far, 1000 + 10 * far);
            p.second(0, c, 1000 + 17 * far, 1000 + 17 * far);
        }
        return p;
    }

    private static void wrongAlone() {
        Due.says("A CELLAR is WRONG ALONE, if no CELL FITS all, and some FITS all but it, and of no other CELLAR that is so.");
        for (int c = 0; c < 4; c++) {
            CellarPen p = agreeing();
            Due.is("all agree", p.wrong(0), NONE);
            Due.is("and fit", p.fit(0, 20, 20), 1);
            p.read(0, c, 5000, 5000);
            Due.is("wrong " + c, p.wrong(0), c);
            p.second(0, c, 4000, 4000);
            Due.is("wrong in itself, too, " + c, p.wrong(0), c);
        }
        CellarPen single = with(3, 3);
        single.cellar(30, 30);
        single.read(0, 0, 500, 500);
        single.second(0, 0, 500, 500);
        single.read(0, 1, 500, 500);
        single.second(0, 1, 490, 490);
        Due.is("but for it just one cell fits", single.fits(0, 1, 0), 1);
        Due.is("that is some", single.wrong(0), 1);
        CellarPen self = with(3, 3);
        self.read(0, 0, 500, 500);
        self.second(0, 0, 499, 499);
        Due.is("the only one, S ahead of P: without it all fit", self.wrong(0), 0);
    }

    private static void noneWrong() {
        Due.says("The CELLAR that is WRONG ALONE; NONE if there is none, or one can't be.");
        CellarPen p = agreeing();
        p.read(0, 0, 5000, 5000);
        p.read(0, 1, 7000, 7000);
        Due.is("two are wrong", p.wrong(0), NONE);
        CellarPen two = with(0, 0);
        two.cellar(0, 0);
        two.read(0, 0, 100, 100);
        two.read(0, 1, 200, 200);
        Due.is("each of two may be", two.wrong(0), NONE);
        CellarPen one = with(0, 0);
        one.read(0, 0, 100, 100);
        one.second(0, 0, 100, 100);
        Due.is("just one cell fits", one.fits(0, 63, 0), 1);
        Due.is("so none is wrong", one.wrong(0), NONE);
        CellarPen none = with(0, 0);
        Due.is("nothing was read", none.wrong(0), NONE);
        none.read(0, 0, 100, 100);
        Due.is("one reading", none.wrong(0), NONE);
        Due.is("no quake 1", none.wrong(1), NONE);
        Due.is("no quake -1", none.wrong(-1), NONE);
        CellarPen empty = new CellarPen();
        empty.quake();
        Due.is("no cellars", empty.wrong(0), NONE);
    }

    /** The SLIDES that say 'up' in a SECTOR: those two whose SECTORS k, k + 1, k + 4, k + 5 have it. */
    private static int upIn(int sector) {
        int due = 0;
        for (int k = 0; k < 4; k++) {
            for (int more : new int[] {0, 1, 4, 5}) {
                due |= (k + more) % 8 == sector ? 1 << k : 0;
            }
        }
        return due;
    }

    private static void sector(int dx, int dy, int sector) {
        CellarPen p = with(19 + dx, 19 + dy);
        p.read(0, 0, 0, 0);
        p.beat(0, 0, 1, 0);
        Due.is("up at " + dx + ", " + dy, p.slides(0, 19, 19), upIn(sector));
        p.beat(0, 0, -1, 0);
        Due.is("down at " + dx + ", " + dy, p.slides(0, 19, 19), 15 - upIn(sector));
    }

    private static void sectors() {
        Due.says("0 dx above 0, dy 0 or more, dy below dx;");
        sector(1, 0, 0);
        sector(19, 0, 0);
        sector(19, 18, 0);
        Due.says("1 dx above 0, dy dx or more;");
        sector(1, 1, 1);
        sector(19, 19, 1);
        sector(1, 19, 1);
        sector(18, 19, 1);
        Due.says("2 dx 0 or less, dy above less dx;");
        sector(0, 1, 2);
        sector(0, 19, 2);
        sector(-1, 2, 2);
        sector(-18, 19, 2);
        Due.says("3 dx below 0, dy above 0, dy less dx or less;");
        sector(-1, 1, 3);
        sector(-19, 19, 3);
        sector(-19, 1, 3);
        Due.says("4 .. 7 likewise, turned by half (dx and dy with the other sign);");
        sector(-1, 0, 4);
        sector(-19, -18, 4);
        sector(-1, -1, 5);
        sector(-1, -19, 5);
        sector(0, -1, 6);
        sector(1, -2, 6);
        sector(18, -19, 6);
        sector(1, -1, 7);
        sector(19, -19, 7);
        sector(19, -1, 7);
    }

    private static void noSector() {
        Due.says("at the CELL itself none.");
        CellarPen p = with(5, 5);
        p.cellar(6, 5);
        p.read(0, 0, 0, 0);
        p.beat(0, 0, 1, 0);
        Due.is("up there", p.slides(0, 5, 5), 15);
        p.beat(0, 0, -1, 0);
        Due.is("down there", p.slides(0, 5, 5), 15);
        p.read(0, 1, 0, 0);
        p.beat(0, 1, 1, 0);
        Due.is("the other one alone tells", p.slides(0, 5, 5), upIn(0));
    }

    private static void slides() {
        Due.says("BEAT is up in SECTORS k, k + 1, k + 4, k + 5 (modulo 8), down in the others.");
        int[][] ways = {{5, 1}, {1, 5}, {-1, 5}, {-5, 1}, {-5, -1}, {-1, -5}};
        for (int k = 0; k < 4; k++) {
            CellarPen p = new CellarPen();
            p.quake();
            for (int c = 0; c < 6; c++) {
                p.cellar(20 + ways[c][0], 20 + ways[c][1]);
                p.read(0, c, 0, 0);
                p.beat(0, c, (upIn(c) >> k & 1) == 1 ? 1 : -1, 0);
            }
            Due.is("slide " + k + " alone", p.slides(0, 20, 20), 1 << k);
            p.beat(0, 5, (upIn(5) >> k & 1) == 1 ? -1 : 1, 0);
            Due.is("one beat against it", p.slides(0, 20, 20), 0);
            p.beat(0, 5, 0, 0);
            Due.is("that one not read", p.slides(0, 20, 20), 1 << k);
        }
        Due.says("A SLIDE AGREES at a CELL, if all BEATS that were read (and have a SECTOR) are as it says.");
        CellarPen none = with(0, 0);
        Due.is("no reading", none.slides(0, 39, 39), 15);
        none.read(0, 0, 0, 0);
        Due.is("no beat", none.slides(0, 39, 39), 15);
        int[][] beyond = {{-1, 0}, {0, -1}, {40, 0}, {0, 40}};
        for (int[] cell : beyond) {
            Due.is("beyond", none.slides(0, cell[0], cell[1]), NONE);
        }
        Due.is("no quake", none.slides(1, 0, 0), NONE);
    }
}
