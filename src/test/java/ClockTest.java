/** Promises 10 to 14: MARKS, CLOCKS, TIMES, FIRST, BURSTS. */
public final class ClockTest {
    private static final int NONE = CellarPen.NONE;
    private static final int UNKNOWN = CellarPen.UNKNOWN;

    public static void main(String[] args) {
        marks();
        clocks();
        times();
        firsts();
        bursts();
        Due.finish("ClockTest");
    }

    private static void marks() {
        CellarPen p = new CellarPen();
        Due.no("no cellar", p.mark(0, 0, 0));
        p.cellar(0, 0);
        Due.no("no sample", p.mark(0, 0, 0));
        for (int i = 0; i < 50; i++) {
            p.write(0, i, UNKNOWN);
        }
        Due.no("no such sample", p.mark(0, 50, 0));
        Due.no("sample -1", p.mark(0, -1, 0));
        Due.no("minute -1", p.mark(0, 0, -1));
        Due.no("minute 10000", p.mark(0, 0, 10000));
        Due.yes("a missing sample has a minute too", p.mark(0, 3, 5));
        Due.no("the same sample", p.mark(0, 3, 6));
        Due.no("a sample ahead", p.mark(0, 2, 6));
        Due.no("the same minute", p.mark(0, 4, 5));
        Due.no("a minute ahead", p.mark(0, 4, 4));
        Due.is("one", p.at(0, 1005), 1);
        Due.yes("the last minute", p.mark(0, 4, 9999));
        p.paper(0);
        for (int i = 0; i < 50; i++) {
            p.write(0, i, 0);
        }
        for (int i = 0; i < 40; i++) {
            Due.yes("mark " + i, p.mark(0, i, i));
        }
        Due.no("the 41st", p.mark(0, 40, 40));
        Due.is("forty", p.at(0, 1005), 40);
        Due.is("the last is not between two", p.time(0, 39, 2), NONE);
        Due.is("the last between two", p.time(0, 38, 2), 38 * 60);
    }

    private static void clocks() {
        CellarPen p = new CellarPen();
        Due.no("no cellar", p.clock(0, 0, 600, 600));
        p.cellar(0, 0);
        Due.samples(p, 0, 0, 0, 0);
        p.mark(0, 0, 1);
        p.mark(0, 2, 2);
        Due.is("600 at first", p.time(0, 0, 0), 600);
        Due.is("600 at first", p.time(0, 0, 1), 610);
        Due.no("t -1", p.clock(0, -1, 600, 600));
        Due.no("t beyond", p.clock(0, 1000000, 600, 600));
        Due.no("a 499", p.clock(0, 0, 499, 600));
        Due.no("b 701", p.clock(0, 0, 600, 701));
        Due.no("a above b", p.clock(0, 0, 601, 600));
        Due.no("a beyond", p.clock(0, 0, 701, 701));
        Due.is("nothing is done", p.time(0, 0, 0), 600);
        Due.yes("the ends", p.clock(0, 999999, 500, 700));
        Due.is("from", p.time(0, 0, 0), 999999 + 500);
        Due.is("to", p.time(0, 0, 1), 999999 + 61 * 700 / 60);
        Due.yes("one", p.clock(0, 0, 500, 500));
        Due.is("from", p.time(0, 1, 0), 90 * 500 / 60);
        Due.is("to", p.time(0, 1, 1), 91 * 500 / 60);
    }

    private static void times() {
        CellarPen p = new CellarPen();
        Due.is("no cellar", p.time(0, 0, 0), NONE);
        p.cellar(0, 0);
        for (int i = 0; i < 200; i++) {
            p.write(0, i, 0);
        }
        p.mark(0, 10, 100);
        Due.is("one mark alone", p.time(0, 10, 2), NONE);
        p.mark(0, 17, 103);
        p.mark(0, 18, 110);
        Due.is("ahead of the first", p.time(0, 9, 2), NONE);
        Due.is("at the first", p.time(0, 10, 2), 6000);
        Due.is("downwards", p.time(0, 11, 2), 6000 + 180 / 7);
        Due.is("the next couple", p.time(0, 17, 2), 6180);
        Due.is("at the last", p.time(0, 18, 2), NONE);
        Due.is("what 3", p.time(0, 10, 3), NONE);
        Due.is("what -1", p.time(0, 10, -1), NONE);
        Due.is("cellar 1", p.time(1, 10, 0), NONE);
        Due.is("sample -1", p.time(0, -1, 0), NONE);
        p.clock(0, 7, 511, 697);
        Due.is("from", p.time(0, 11, 0), 7 + 6025 * 511 / 60);
        Due.is("to", p.time(0, 11, 1), 7 + 6026 * 697 / 60);
        CellarPen far = new CellarPen();
        far.cellar(0, 0);
        for (int i = 0; i < 200; i++) {
            far.write(0, i, 0);
        }
        far.mark(0, 0, 0);
        far.mark(0, 199, 9999);
        far.clock(0, 999999, 700, 700);
        Due.is("the longest", far.time(0, 198, 2), 198L * 60 * 9999 / 199);
        Due.is("the longest", far.time(0, 198, 1), 999999 + (198L * 60 * 9999 / 199 + 1) * 700 / 60);
    }

    private static void firsts() {
        CellarPen p = new CellarPen();
        Due.is("no cellar", p.first(0, 0), NONE);
        p.cellar(0, 0);
        Due.is("no samples", p.first(0, 0), NONE);
        Due.samples(p, 0, 0, UNKNOWN, -3, 3, 999, -999);
        Due.is("farther than 0", p.first(0, 0), 2);
        Due.is("farther than 2", p.first(0, 2), 2);
        Due.is("farther than 3", p.first(0, 3), 4);
        Due.is("farther than 998", p.first(0, 998), 4);
        Due.is("farther than 999", p.first(0, 999), NONE);
        Due.is("threshold -1", p.first(0, -1), NONE);
        Due.is("threshold 1000", p.first(0, 1000), NONE);
        Due.is("cellar 1", p.first(1, 0), NONE);
        Due.samples(p, 0, -1, 1);
        Due.is("the very first", p.first(0, 0), 0);
    }

    private static void bursts() {
        CellarPen p = new CellarPen();
        Due.is("no cellar", p.burst(0, 0, 0, 0), NONE);
        p.cellar(0, 0);
        Due.is("no samples", p.burst(0, 0, 0, 0), NONE);
        Due.samples(p, 0, 0, 4, -4, 0, 4, -150, -150, 150, UNKNOWN, 0);
        Due.is("peak of a single one", p.burst(0, 0, 0, 0), 0);
        Due.is("rise of a single one", p.burst(0, 0, 0, 2), 0);
        Due.is("peak", p.burst(0, 0, 7, 0), 150);
        Due.is("crossings: not through a 0", p.burst(0, 0, 7, 1), 3);
        Due.is("rise: the first of the peak", p.burst(0, 1, 7, 2), 4);
        Due.is("clipped", p.burst(0, 0, 7, 3), 3);
        Due.is("nothing ahead of a counts", p.burst(0, 2, 4, 1), 0);
        Due.is("rise of equals", p.burst(0, 1, 4, 2), 0);
        Due.is("a missing one", p.burst(0, 7, 8, 0), NONE);
        Due.is("a above b, the rise", p.burst(0, 4, 3, 2), NONE);
        Due.is("a missing one between", p.burst(0, 7, 9, 0), NONE);
        Due.is("beyond", p.burst(0, 9, 10, 0), NONE);
        Due.is("a -1", p.burst(0, -1, 3, 0), NONE);
        Due.is("a above b", p.burst(0, 4, 3, 0), NONE);
        Due.is("what 4", p.burst(0, 0, 3, 4), NONE);
        Due.is("what -1", p.burst(0, 0, 3, -1), NONE);
        Due.is("cellar 1", p.burst(1, 0, 3, 0), NONE);
        p.pen(0, 8, 16, 151);
        Due.is("clipped by the limit of now", p.burst(0, 0, 7, 3), 0);
        Due.samples(p, 0, 0, -1, 0, 1, 0, -1, 1, -1);
        Due.is("a 0 is no side", p.burst(0, 0, 5, 1), 0);
        Due.is("1 and -1 are sides", p.burst(0, 0, 7, 1), 2);
    }
}
