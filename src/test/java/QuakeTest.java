/** Promises 20 to 28: WAVES, QUAKES, READINGS, FITS, WRONG ALONE, SLIDES. */
public final class QuakeTest {
    private static final int NONE = CellarPen.NONE;

    public static void main(String[] args) {
        waves();
        quakes();
        reading();
        seconds();
        beats();
        fitting();
        oneTimeForAll();
        sets();
        wrongAlone();
        slides();
        Due.finish("QuakeTest");
    }

    private static void waves() {
        CellarPen p = new CellarPen();
        Due.no("dp 0", p.waves(0, 5));
        Due.no("ds 100", p.waves(5, 100));
        Due.no("alike", p.waves(5, 5));
        Due.no("ds below dp", p.waves(6, 5));
        Due.no("both below", p.waves(-2, -1));
        p.cellar(0, 0);
        p.quake();
        p.read(0, 0, 1000, 1000);
        p.second(0, 0, 1070, 1070);
        Due.is("10 and 17 at first", p.fit(0, 10, 0), 1);
        Due.yes("waves", p.waves(1, 8));
        Due.is("the wait is the same", p.fit(0, 10, 0), 1);
        Due.yes("the ends", p.waves(1, 99));
        Due.is("too slow now", p.fit(0, 10, 0), 0);
        Due.no("100", p.waves(99, 100));
        Due.yes("98, 99", p.waves(98, 99));
        Due.is("nothing is so far", p.fits(0, 1, 0), 0);
    }

    private static void quakes() {
        CellarPen p = new CellarPen();
        for (int i = 0; i < 16; i++) {
            Due.is("quake " + i, p.quake(), i);
        }
        Due.is("the 17th", p.quake(), NONE);
        Due.is("look", p.look(1), 16);
    }

    private static void reading() {
        CellarPen p = new CellarPen();
        p.quake();
        Due.no("no cellar", p.read(0, 0, 0, 0));
        p.cellar(0, 0);
        Due.no("no quake 1", p.read(1, 0, 0, 0));
        Due.no("no quake -1", p.read(-1, 0, 0, 0));
        Due.no("no cellar 1", p.read(0, 1, 0, 0));
        Due.no("no cellar -1", p.read(0, -1, 0, 0));
        Due.no("from -1", p.read(0, 0, -1, 0));
        Due.no("to beyond", p.read(0, 0, 0, 10000000));
        Due.no("from above to", p.read(0, 0, 2, 1));
        Due.no("nothing was read", p.beat(0, 0, 1, 1));
        Due.yes("the ends", p.read(0, 0, 0, 9999999));
        Due.yes("alike", p.read(0, 0, 9999999, 9999999));
        p.second(0, 0, 1, 1);
        p.beat(0, 0, 1, 500);
        Due.is("S can't be ahead of P", p.fits(0, 1, 0), 0);
        Due.is("beat", p.slides(0, 5, 0), 9);
        Due.no("refused", p.read(0, 0, 2, 1));
        Due.is("nothing is done", p.fits(0, 1, 0), 0);
        Due.yes("anew", p.read(0, 0, 9999999, 9999999));
        Due.is("S is not read", p.fits(0, 1, 0), 1600);
        Due.is("BEAT is not read", p.slides(0, 5, 0), 15);
        Due.is("PEAK is 0", p.size(0, 5, 0, 0), CellarPen.UNKNOWN);
    }

    private static void seconds() {
        CellarPen p = new CellarPen();
        p.cellar(0, 0);
        p.quake();
        Due.no("P not read", p.second(0, 0, 5, 6));
        Due.no("P not read", p.second(0, 0, NONE, NONE));
        p.read(0, 0, 100, 100);
        Due.no("from above to", p.second(0, 0, 6, 5));
        Due.no("from -2", p.second(0, 0, -2, 5));
        Due.no("to beyond", p.second(0, 0, 5, 10000000));
        Due.no("no quake", p.second(1, 0, 5, 6));
        Due.no("no cellar", p.second(0, 1, 5, 6));
        Due.no("no cellar", p.second(0, -1, 5, 6));
        Due.yes("the ends", p.second(0, 0, 0, 9999999));
        Due.is("wide", p.fits(0, 1, 0), 1600);
        Due.yes("the same time", p.second(0, 0, 100, 100));
        Due.is("only the cell itself and its nearest", p.fits(0, 1, 0), 1);
        Due.no("refused", p.second(0, 0, 6, 5));
        Due.is("nothing is done", p.fits(0, 1, 0), 1);
        Due.yes("not read", p.second(0, 0, NONE, 7));
        Due.is("all again", p.fits(0, 1, 0), 1600);
    }

    private static void beats() {
        CellarPen p = new CellarPen();
        p.cellar(0, 0);
        p.quake();
        Due.no("P not read", p.beat(0, 0, 1, 1));
        p.read(0, 0, 0, 0);
        Due.no("beat 2", p.beat(0, 0, 2, 1));
        Due.no("beat -2", p.beat(0, 0, -2, 1));
        Due.no("peak -1", p.beat(0, 0, 1, -1));
        Due.no("peak beyond", p.beat(0, 0, 1, 1000000));
        Due.no("no quake", p.beat(1, 0, 1, 1));
        Due.no("no cellar", p.beat(0, 1, 1, 1));
        Due.is("nothing is done", p.size(0, 0, 0, 0), CellarPen.UNKNOWN);
        Due.yes("the ends", p.beat(0, 0, -1, 999999));
        Due.is("size", p.size(0, 0, 0, 0), 199);
        Due.yes("the ends", p.beat(0, 0, 0, 0));
        Due.is("none", p.size(0, 0, 0, 0), CellarPen.UNKNOWN);
    }

    private static void fitting() {
        CellarPen p = new CellarPen();
        p.cellar(20, 20);
        p.quake();
        // a wait of 34 .. 36 tenths at 7 a CELL: DISTANCE 5 alone
        p.read(0, 0, 1000, 1001);
        p.second(0, 0, 1035, 1036);
        int count = 0;
        int last = NONE;
        for (int y = 0; y < 40; y++) {
            for (int x = 0; x < 40; x++) {
                int square = (x - 20) * (x - 20) + (y - 20) * (y - 20);
                boolean due = square >= 25 && square < 36;
                Due.is("fit at " + x + ", " + y, p.fit(0, x, y), due ? 1 : 0);
                if (due) {
                    last = 40 * y + x;
                    count++;
                    Due.is("cell " + count, p.fits(0, 1, count), last);
                }
            }
        }
        Due.is("how many", p.fits(0, 1, 0), count);
        Due.is("none such", p.fits(0, 1, count + 1), NONE);
        Due.is("x 40", p.fit(0, 40, 0), NONE);
        Due.is("y -1", p.fit(0, 0, -1), NONE);
        Due.is("no quake", p.fit(1, 0, 0), NONE);
        Due.is("no quake", p.fit(-1, 0, 0), NONE);
    }

    private static void oneTimeForAll() {
        CellarPen p = new CellarPen();
        p.cellar(0, 0);
        p.cellar(30, 0);
        p.quake();
        // the CELL is nearer to 0 by 10: both ends are in
        p.read(0, 0, 1000, 1010);
        p.read(0, 1, 1110, 1110);
        Due.is("at the end", p.fit(0, 10, 0), 1);
        p.read(0, 1, 1111, 1111);
        Due.is("above the end", p.fit(0, 10, 0), 0);
        p.read(0, 1, 1100, 1100);
        Due.is("at the other end", p.fit(0, 10, 0), 1);
        p.read(0, 1, 1099, 1099);
        Due.is("below it", p.fit(0, 10, 0), 0);
        // O may be ahead of time 0
        p.read(0, 0, 0, 0);
        p.read(0, 1, 100, 100);
        Due.is("O is -100", p.fit(0, 10, 0), 1);
        // P of one and S of the other: one O for both
        p.read(0, 0, 1000, 1000);
        p.read(0, 1, 0, 9999999);
        p.second(0, 1, 900 + 17 * 20, 900 + 17 * 20);
        Due.is("P and S of two", p.fit(0, 10, 0), 1);
        p.second(0, 1, 901 + 17 * 20, 901 + 17 * 20);
        Due.is("P and S of two", p.fit(0, 10, 0), 0);
    }

    private static void sets() {
        CellarPen p = new CellarPen();
        p.cellar(0, 0);
        p.cellar(39, 39);
        p.quake();
        Due.is("no readings: all", p.fits(0, 63, 0), 1600);
        Due.is("the last cell", p.fits(0, 63, 1600), 1599);
        Due.is("the first cell", p.fits(0, 63, 1), 0);
        Due.is("what 1601", p.fits(0, 63, 1601), NONE);
        Due.is("what -1", p.fits(0, 63, -1), NONE);
        Due.is("set 0", p.fits(0, 0, 0), NONE);
        Due.is("set 64", p.fits(0, 64, 0), NONE);
        Due.is("set -1", p.fits(0, -1, 0), NONE);
        Due.is("quake 1", p.fits(1, 1, 0), NONE);
        p.read(0, 0, 1000, 1000);
        p.second(0, 0, 1000, 1000);
        p.read(0, 1, 2000, 2000);
        Due.is("of 0", p.fits(0, 1, 0), 1);
        Due.is("of 1", p.fits(0, 2, 0), 1600);
        Due.is("of both", p.fits(0, 3, 0), 0);
        Due.is("of those that have no reading", p.fits(0, 60, 0), 1600);
        Due.is("of 0 and those", p.fits(0, 61, 1), 0);
        Due.is("fit asks all", p.fit(0, 0, 0), 0);
    }

    private static void wrongAlone() {
        CellarPen p = new CellarPen();
        Due.is("no quake", p.wrong(0), NONE);
        p.cellar(5, 5);
        p.cellar(30, 5);
        p.cellar(5, 30);
        p.cellar(30, 30);
        p.cellar(20, 10);
        p.quake();
        Due.is("nothing read", p.wrong(0), NONE);
        p.read(0, 4, 500, 500);
        p.second(0, 4, 400, 400);
        Due.is("the only one, against itself", p.wrong(0), 4);
        p.read(0, 0, 1100, 1105);
        p.second(0, 0, 900, 905);
        Due.is("two of them: no one alone", p.wrong(0), NONE);
        CellarPen many = new CellarPen();
        int[] xs = {5, 30, 5, 30};
        int[] ys = {5, 5, 30, 30};
        many.quake();
        for (int c = 0; c < 4; c++) {
            many.cellar(xs[c], ys[c]);
            int square = (xs[c] - 12) * (xs[c] - 12) + (ys[c] - 17) * (ys[c] - 17);
            int distance = (int) Math.sqrt(square);
            many.read(0, c, 1000 + 10 * distance, 1000 + 10 * distance);
            many.second(0, c, 1000 + 17 * distance, 1000 + 17 * distance);
        }
        Due.is("all agree", many.wrong(0), NONE);
        Due.is("at its place", many.fit(0, 12, 17), 1);
        many.read(0, 2, 5000, 5000);
        Due.is("2 is wrong", many.wrong(0), 2);
        many.read(0, 3, 7000, 7000);
        Due.is("two are wrong", many.wrong(0), NONE);
        CellarPen two = new CellarPen();
        two.cellar(0, 0);
        two.cellar(1, 0);
        two.quake();
        two.read(0, 0, 1000, 1000);
        two.read(0, 1, 5000, 5000);
        Due.is("either may be wrong", two.wrong(0), NONE);
        two.second(0, 0, 1000, 1000);
        two.second(0, 1, 4999, 4999);
        Due.is("without 1 a single cell fits", two.fits(0, 1, 0), 1);
        Due.is("without 0 none fits", two.fits(0, 2, 0), 0);
        Due.is("1 is wrong", two.wrong(0), 1);
        Due.is("no quake 1", two.wrong(1), NONE);
        Due.is("no quake -1", two.wrong(-1), NONE);
    }

    /** The SLIDES that say 'up' where a CELLAR lies so from the CELL 20, 20. */
    private static int up(int dx, int dy, int beat) {
        CellarPen p = new CellarPen();
        p.cellar(20 + dx, 20 + dy);
        p.quake();
        p.read(0, 0, 0, 0);
        p.beat(0, 0, beat, 0);
        return p.slides(0, 20, 20);
    }

    private static void slides() {
        // up in SECTOR s: SLIDES s and s - 1, modulo 4
        int[][] bySector = {
            {5, 0}, {5, 4}, {5, 5}, {5, 6}, {1, 9}, {0, 5}, {-4, 5}, {-1, 9}, {-5, 5}, {-5, 4}, {-9, 1},
            {-5, 0}, {-5, -4}, {-5, -5}, {-5, -6}, {-1, -9}, {0, -5}, {4, -5}, {1, -9}, {5, -5}, {5, -4}, {9, -1}};
        int[] sectors = {0, 0, 1, 1, 1, 2, 2, 2, 3, 3, 3, 4, 4, 5, 5, 5, 6, 6, 6, 7, 7, 7};
        for (int i = 0; i < sectors.length; i++) {
            int due = 1 << sectors[i] % 4 | 1 << (sectors[i] + 3) % 4;
            String where = bySector[i][0] + ", " + bySector[i][1];
            Due.is("up at " + where, up(bySector[i][0], bySector[i][1], 1), due);
            Due.is("down at " + where, up(bySector[i][0], bySector[i][1], -1), 15 - due);
            Due.is("not read at " + where, up(bySector[i][0], bySector[i][1], 0), 15);
        }
        Due.is("at the cell itself", up(0, 0, 1), 15);
        CellarPen p = new CellarPen();
        p.cellar(30, 21);
        p.cellar(21, 30);
        p.cellar(10, 21);
        p.quake();
        Due.is("nothing read", p.slides(0, 20, 20), 15);
        for (int c = 0; c < 3; c++) {
            p.read(0, c, 0, 0);
        }
        p.beat(0, 0, 1, 0);
        p.beat(0, 1, 1, 0);
        Due.is("up in 0 and 1", p.slides(0, 20, 20), 1);
        p.beat(0, 2, 1, 0);
        Due.is("and up in 3: none", p.slides(0, 20, 20), 0);
        p.beat(0, 2, -1, 0);
        Due.is("and down in 3", p.slides(0, 20, 20), 1);
        Due.is("x 40", p.slides(0, 40, 0), NONE);
        Due.is("y -1", p.slides(0, 0, -1), NONE);
        Due.is("quake 1", p.slides(1, 0, 0), NONE);
    }
}
