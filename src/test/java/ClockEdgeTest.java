/** The sentences of part 2 on MARKS, CLOCKS, FIRST and BURSTS, and of promises 10 to 14, that name a boundary. */
public final class ClockEdgeTest {
    private static final int NONE = CellarPen.NONE;
    private static final int UNKNOWN = CellarPen.UNKNOWN;

    public static void main(String[] args) {
        fortyMarks();
        minutes();
        rising();
        samplesOfMarks();
        firstClock();
        clockEnds();
        sampleAtMark();
        marksNextToOneAnother();
        secondsGoDownwards();
        timesGoDownwards();
        longestTimes();
        firsts();
        firstOfMissing();
        burstsAllThere();
        peaks();
        crossings();
        rises();
        clippedOnes();
        longestBurst();
        Due.finish("ClockEdgeTest");
    }

    private static CellarPen withSamples(int count) {
        CellarPen p = new CellarPen();
        p.cellar(0, 0);
        for (int i = 0; i < count; i++) {
            p.write(0, i, 0);
        }
        return p;
    }

    private static void fortyMarks() {
        Due.says("MARKS (40 a CELLAR)");
        CellarPen p = withSamples(42);
        p.cellar(1, 1);
        p.write(1, 0, 0);
        for (int i = 0; i < 39; i++) {
            p.mark(0, i, i);
        }
        Due.is("39", p.at(0, 1005), 39);
        Due.yes("the 40th", p.mark(0, 39, 39));
        Due.is("it stands", p.time(0, 38, 2), 38 * 60);
        Due.says("or there are 40.");
        Due.no("the 41st", p.mark(0, 40, 40));
        Due.no("still", p.mark(0, 41, 41));
        Due.is("40", p.at(0, 1005), 40);
        Due.is("not between two", p.time(0, 39, 2), NONE);
        Due.yes("of another cellar", p.mark(1, 0, 0));
        p.paper(0);
        p.write(0, 0, 0);
        Due.yes("on new paper", p.mark(0, 0, 0));
        Due.is("one", p.at(0, 1005), 1);
    }

    private static void minutes() {
        Due.says("a SAMPLE is a MINUTE 0 .. 9999 of its CLOCK");
        CellarPen p = withSamples(3);
        Due.no("-1", p.mark(0, 0, -1));
        Due.no("10000", p.mark(0, 0, 10000));
        Due.is("none", p.at(0, 1005), 0);
        Due.yes("0", p.mark(0, 0, 0));
        Due.no("10000", p.mark(0, 1, 10000));
        Due.yes("9999", p.mark(0, 1, 9999));
        Due.no("nothing is above", p.mark(0, 2, 9999));
        Due.is("two", p.at(0, 1005), 2);
    }

    private static void rising() {
        Due.says("(told with SAMPLES and MINUTES rising)");
        CellarPen p = withSamples(10);
        Due.yes("anywhere at first", p.mark(0, 4, 50));
        Due.no("same sample", p.mark(0, 4, 51));
        Due.no("sample ahead", p.mark(0, 3, 51));
        Due.no("same minute", p.mark(0, 5, 50));
        Due.no("minute ahead", p.mark(0, 5, 49));
        Due.no("both ahead", p.mark(0, 3, 49));
        Due.no("both the same", p.mark(0, 4, 50));
        Due.is("one", p.at(0, 1005), 1);
        Due.yes("both the next ones", p.mark(0, 5, 51));
        Due.is("two", p.at(0, 1005), 2);
        Due.is("a refused one has moved nothing", p.time(0, 4, 2), 3000);
    }

    private static void samplesOfMarks() {
        Due.says("if one can't be (no such SAMPLE; not behind the last one)");
        CellarPen p = withSamples(0);
        Due.no("no samples", p.mark(0, 0, 0));
        p.write(0, 0, 7);
        p.write(0, 1, UNKNOWN);
        Due.no("-1", p.mark(0, -1, 0));
        Due.no("the next one", p.mark(0, 2, 0));
        Due.no("199", p.mark(0, 199, 0));
        Due.yes("the first", p.mark(0, 0, 0));
        Due.yes("the last, a missing one", p.mark(0, 1, 1));
        p.write(0, 0, -7);
        Due.is("told anew, the mark stays", p.at(0, 1005), 2);
        CellarPen full = withSamples(200);
        Due.no("200", full.mark(0, 200, 0));
        Due.yes("199", full.mark(0, 199, 0));
    }

    private static void firstClock() {
        Due.says("The CLOCK's MINUTE 0 was at TRUE time T (0 .. 999999, in tenths of seconds, 0 at first)");
        CellarPen p = withSamples(2);
        p.mark(0, 0, 0);
        p.mark(0, 1, 1);
        Due.is("T is 0", p.time(0, 0, 0), 0);
        Due.no("-1", p.clock(0, -1, 600, 600));
        Due.no("1000000", p.clock(0, 1000000, 600, 600));
        Due.is("T is 0", p.time(0, 0, 0), 0);
        Due.yes("999999", p.clock(0, 999999, 600, 600));
        Due.is("T is 999999", p.time(0, 0, 0), 999999);
        Due.yes("0", p.clock(0, 0, 600, 600));
        Due.is("T is 0", p.time(0, 0, 0), 0);
    }

    private static void clockEnds() {
        Due.says("a MINUTE of it takes A .. B tenths (500 .. 700 each, A not above B; 600 both at first).");
        CellarPen p = withSamples(2);
        p.mark(0, 0, 1);
        p.mark(0, 1, 2);
        Due.is("A is 600", p.time(0, 0, 0), 600);
        Due.is("B is 600", p.time(0, 0, 1), 610);
        int[][] bad = {{499, 600}, {600, 701}, {601, 600}, {700, 500}, {499, 499}, {701, 701}};
        for (int[] bounds : bad) {
            Due.no("can't be " + bounds[0] + ", " + bounds[1], p.clock(0, 5, bounds[0], bounds[1]));
        }
        Due.is("nothing is done", p.time(0, 0, 0), 600);
        Due.is("nothing is done", p.time(0, 0, 1), 610);
        int[][] good = {{500, 500}, {500, 700}, {700, 700}, {600, 600}, {599, 600}};
        for (int[] bounds : good) {
            Due.yes("can be " + bounds[0] + ", " + bounds[1], p.clock(0, 0, bounds[0], bounds[1]));
            Due.is("A " + bounds[0], p.time(0, 0, 0), bounds[0]);
            Due.is("B " + bounds[1], p.time(0, 0, 1), 61 * bounds[1] / 60);
        }
    }

    private static void sampleAtMark() {
        Due.says("(the first one's SAMPLE not above s, the second one's above)");
        CellarPen p = withSamples(20);
        p.mark(0, 5, 10);
        Due.is("one mark alone", p.time(0, 5, 2), NONE);
        p.mark(0, 8, 11);
        p.mark(0, 12, 20);
        Due.is("ahead of the first", p.time(0, 4, 2), NONE);
        Due.is("at the first", p.time(0, 5, 2), 600);
        Due.is("ahead of the second", p.time(0, 7, 2), 600 + 40);
        Due.is("at the second: of the couple behind", p.time(0, 8, 2), 660);
        Due.is("behind the second", p.time(0, 9, 2), 660 + 540 / 4);
        Due.is("ahead of the last", p.time(0, 11, 2), 660 + 3 * 540 / 4);
        Due.says("NONE if it is not between two MARKS, one can't be, or another what.");
        for (int what = 0; what <= 2; what++) {
            Due.is("at the last", p.time(0, 12, what), NONE);
            Due.is("behind the last", p.time(0, 13, what), NONE);
            Due.is("-1", p.time(0, -1, what), NONE);
            Due.is("no such sample", p.time(0, 20, what), NONE);
            Due.is("no such cellar", p.time(1, 5, what), NONE);
        }
        Due.is("what 3", p.time(0, 5, 3), NONE);
        Due.is("what -1", p.time(0, 5, -1), NONE);
    }

    private static void marksNextToOneAnother() {
        Due.says("CLOCK SECONDS of a SAMPLE s between two MARKS next to one another");
        CellarPen p = withSamples(41);
        for (int i = 0; i < 40; i++) {
            p.mark(0, i, i * i);
        }
        for (int i = 0; i < 39; i++) {
            Due.is("at mark " + i, p.time(0, i, 2), 60 * i * i);
        }
        p.write(0, 3, UNKNOWN);
        Due.is("a missing sample has its time", p.time(0, 3, 2), 540);
    }

    private static void secondsGoDownwards() {
        Due.says("60 times the MINUTE and (s less the SAMPLE) times 60 times (MINUTES between) by (SAMPLES between).");
        CellarPen p = withSamples(120);
        p.mark(0, 10, 7);
        p.mark(0, 107, 8);
        Due.is("less than a second", p.time(0, 11, 2), 420);
        Due.is("60 / 97, 120 / 97", p.time(0, 12, 2), 421);
        Due.is("96 60 / 97", p.time(0, 106, 2), 420 + 59);
        CellarPen long1 = withSamples(8);
        long1.mark(0, 0, 0);
        long1.mark(0, 7, 9999);
        for (int i = 0; i < 7; i++) {
            Due.is("a seventh " + i, long1.time(0, i, 2), i * 599940 / 7);
        }
    }

    private static void timesGoDownwards() {
        Due.says("from T and CLOCK SECONDS times A by 60, to T and (CLOCK SECONDS and 1) times B by 60.");
        CellarPen p = withSamples(61);
        p.mark(0, 0, 0);
        p.mark(0, 60, 1);
        p.clock(0, 13, 509, 691);
        for (int i = 0; i < 60; i++) {
            Due.is("seconds " + i, p.time(0, i, 2), i);
            Due.is("from " + i, p.time(0, i, 0), 13 + i * 509 / 60);
            Due.is("to " + i, p.time(0, i, 1), 13 + (i + 1) * 691 / 60);
        }
    }

    private static void longestTimes() {
        Due.says("TIME of a SAMPLE: what 0 from, 1 to, 2 CLOCK SECONDS.");
        CellarPen p = withSamples(3);
        p.mark(0, 0, 9998);
        p.mark(0, 2, 9999);
        p.clock(0, 999999, 700, 700);
        Due.is("seconds", p.time(0, 1, 2), 9998 * 60 + 30);
        Due.is("from", p.time(0, 1, 0), 999999 + (9998L * 60 + 30) * 700 / 60);
        Due.is("to", p.time(0, 1, 1), 999999 + (9998L * 60 + 31) * 700 / 60);
    }

    private static void firsts() {
        Due.says("FIRST of a CELLAR for a threshold: the first SAMPLE farther from 0 than it");
        CellarPen p = withSamples(0);
        Due.is("no samples", p.first(0, 0), NONE);
        Due.samples(p, 0, 0, 1, -5, 5, 6, -999);
        Due.is("0 is not farther than 0", p.first(0, 0), 1);
        Due.is("1 is not farther than 1", p.first(0, 1), 2);
        Due.is("-5 is farther than 4", p.first(0, 4), 2);
        Due.is("5 is not farther than 5", p.first(0, 5), 4);
        Due.is("6 is not farther than 6", p.first(0, 6), 5);
        Due.is("beyond the limit", p.first(0, 998), 5);
        Due.says("FIRST for a threshold 0 .. 999; NONE if there is none, or one can't be.");
        Due.is("999 is not farther than 999", p.first(0, 999), NONE);
        Due.is("1000", p.first(0, 1000), NONE);
        Due.is("-1", p.first(0, -1), NONE);
        Due.is("the least int", p.first(0, Integer.MIN_VALUE), NONE);
        Due.is("no such cellar", p.first(1, 0), NONE);
        Due.is("no such cellar", p.first(-1, 0), NONE);
        p.write(0, 0, -1);
        Due.is("the very first", p.first(0, 0), 0);
        CellarPen last = withSamples(199);
        last.write(0, 199, -1);
        Due.is("the last of 200", last.first(0, 0), 199);
    }

    private static void firstOfMissing() {
        Due.says("(MISSING ones are not)");
        CellarPen p = withSamples(0);
        Due.samples(p, 0, UNKNOWN, UNKNOWN);
        Due.is("missing ones alone", p.first(0, 0), NONE);
        Due.is("missing ones alone", p.first(0, 999), NONE);
        p.write(0, 2, 1);
        Due.is("behind them", p.first(0, 0), 2);
    }

    private static void burstsAllThere() {
        Due.says("A BURST from SAMPLE a to b (all there, none MISSING)");
        CellarPen p = withSamples(0);
        Due.is("no samples", p.burst(0, 0, 0, 0), NONE);
        Due.samples(p, 0, UNKNOWN, 1, 2, 3, UNKNOWN, 5, 6);
        for (int what = 0; what <= 3; what++) {
            Due.yes("one sample", p.burst(0, 1, 1, what) != NONE);
            Due.yes("three", p.burst(0, 1, 3, what) != NONE);
            Due.yes("up to the last", p.burst(0, 5, 6, what) != NONE);
            Due.is("missing ahead", p.burst(0, 0, 3, what), NONE);
            Due.is("missing behind", p.burst(0, 1, 4, what), NONE);
            Due.is("missing between", p.burst(0, 1, 6, what), NONE);
            Due.is("missing alone", p.burst(0, 4, 4, what), NONE);
            Due.is("beyond", p.burst(0, 5, 7, what), NONE);
            Due.is("all beyond", p.burst(0, 7, 7, what), NONE);
            Due.is("a -1", p.burst(0, -1, 1, what), NONE);
            Due.is("b ahead of a", p.burst(0, 2, 1, what), NONE);
            Due.is("the last int", p.burst(0, 1, Integer.MAX_VALUE, what), NONE);
            Due.is("no such cellar", p.burst(1, 1, 1, what), NONE);
        }
        Due.is("what 4", p.burst(0, 1, 3, 4), NONE);
        Due.is("what -1", p.burst(0, 1, 3, -1), NONE);
    }

    private static void peaks() {
        Due.says("PEAK: the greatest distance from 0;");
        CellarPen p = withSamples(0);
        Due.samples(p, 0, 0, 0, 5, -6, 3, 999, -999);
        Due.is("0 is a peak", p.burst(0, 0, 1, 0), 0);
        Due.is("above 0", p.burst(0, 0, 2, 0), 5);
        Due.is("below 0", p.burst(0, 0, 4, 0), 6);
        Due.is("as told, not as the limit", p.burst(0, 4, 5, 0), 999);
        Due.is("as told, below 0", p.burst(0, 6, 6, 0), 999);
    }

    private static void crossings() {
        Due.says("how often one SAMPLE is above 0 and the next one below or the other way;");
        CellarPen p = withSamples(0);
        Due.samples(p, 0, 1, -1, 1, 0, -1, 0, 0, 1, 2, -2);
        Due.is("one sample", p.burst(0, 0, 0, 1), 0);
        Due.is("down", p.burst(0, 0, 1, 1), 1);
        Due.is("up", p.burst(0, 1, 2, 1), 1);
        Due.is("to 0", p.burst(0, 2, 3, 1), 0);
        Due.is("from 0", p.burst(0, 3, 4, 1), 0);
        Due.is("through 0", p.burst(0, 2, 7, 1), 0);
        Due.is("of one side", p.burst(0, 7, 8, 1), 0);
        Due.is("all", p.burst(0, 0, 9, 1), 3);
    }

    private static void rises() {
        Due.says("RISE: the first SAMPLE of the PEAK less a.");
        CellarPen p = withSamples(0);
        Due.samples(p, 0, 3, -7, 7, -7, 0);
        Due.is("the first of equals", p.burst(0, 0, 4, 2), 1);
        Due.is("at a itself", p.burst(0, 1, 4, 2), 0);
        Due.is("at a of equals", p.burst(0, 2, 4, 2), 0);
        Due.is("of one sample", p.burst(0, 4, 4, 2), 0);
        Due.is("at b", p.burst(0, 0, 1, 2), 1);
    }

    private static void clippedOnes() {
        Due.says("clipped: how many of it are CLIPPED.");
        CellarPen p = withSamples(0);
        Due.samples(p, 0, 99, 98, -99, -98, 100, 0);
        Due.is("of one", p.burst(0, 0, 0, 3), 1);
        Due.is("not of 98", p.burst(0, 1, 1, 3), 0);
        Due.is("of all", p.burst(0, 0, 5, 3), 3);
        Due.is("those between a and b alone", p.burst(0, 1, 3, 3), 1);
        Due.rules(p, "quake when clipped = 3 and length = 6; blast when clipped = 0;");
        Due.is("by rules", p.kind(0, 0, 5, 0, 0), 3);
        Due.is("none", p.kind(0, 1, 1, 0, 0), 2);
        p.pen(0, 8, 16, 100);
        Due.is("by the limit of now", p.burst(0, 0, 5, 3), 1);
        Due.is("by the limit of now", p.kind(0, 0, 5, 0, 0), 0);
    }

    private static void longestBurst() {
        Due.says("LENGTH b - a + 1;");
        CellarPen p = withSamples(0);
        for (int i = 0; i < 200; i++) {
            p.write(0, i, i % 2 == 0 ? i : -i);
        }
        Due.rules(p, "quake when length = 200; blast when length = 1;");
        Due.is("200", p.kind(0, 0, 199, 0, 0), 3);
        Due.is("1", p.kind(0, 199, 199, 0, 0), 2);
        Due.is("199", p.kind(0, 1, 199, 0, 0), 0);
        Due.is("peak", p.burst(0, 0, 199, 0), 199);
        Due.is("rise", p.burst(0, 0, 199, 2), 199);
        Due.is("crossings", p.burst(0, 0, 199, 1), 198);
        Due.is("clipped", p.burst(0, 0, 199, 3), 101);
        Due.is("201", p.kind(0, 0, 200, 0, 0), NONE);
    }
}
