/** Promises 29 to 36: LEVELS, HABITS, SIZES, PLACES, PARTED, COUPLES. */
public final class SizeTest {
    private static final int NONE = CellarPen.NONE;
    private static final int UNKNOWN = CellarPen.UNKNOWN;

    public static void main(String[] args) {
        levels();
        habits();
        sizes();
        places();
        owns();
        picks();
        parted();
        couples();
        Due.finish("SizeTest");
    }

    private static void levels() {
        CellarPen p = new CellarPen();
        int[][] due = {
            {0, 0}, {1, 0}, {2, 10}, {3, 15}, {4, 20}, {5, 22}, {6, 25}, {7, 27}, {8, 30}, {9, 31}, {15, 38},
            {16, 40}, {1023, 99}, {1024, 100}, {999999, 199}, {1 << 30, 300}, {Integer.MAX_VALUE, 309},
            {1610612736, 305}, {-1, NONE}, {Integer.MIN_VALUE, NONE}};
        for (int[] couple : due) {
            Due.is("level " + couple[0], p.level(couple[0]), couple[1]);
        }
    }

    private static void habits() {
        CellarPen p = new CellarPen();
        Due.no("no cellar", p.habit(0, 0));
        p.cellar(0, 0);
        Due.no("51", p.habit(0, 51));
        Due.no("-51", p.habit(0, -51));
        Due.no("cellar -1", p.habit(-1, 0));
        p.quake();
        p.read(0, 0, 0, 0);
        p.beat(0, 0, 0, 1);
        Due.is("0 at first", p.size(0, 0, 0, 0), 0);
        Due.yes("50", p.habit(0, 50));
        Due.is("50", p.size(0, 0, 0, 0), 50);
        Due.yes("-50", p.habit(0, -50));
        Due.is("-50", p.size(0, 0, 0, 0), -50);
    }

    private static void sizes() {
        CellarPen p = new CellarPen();
        Due.is("no quake", p.size(0, 0, 0, NONE), UNKNOWN);
        p.cellar(0, 0);
        p.cellar(0, 2);
        p.cellar(0, 6);
        p.quake();
        Due.is("nothing read", p.size(0, 0, 0, NONE), UNKNOWN);
        Due.is("nothing read", p.size(0, 0, 0, 0), UNKNOWN);
        p.read(0, 0, 0, 0);
        p.read(0, 1, 0, 0);
        p.read(0, 2, 0, 0);
        Due.is("peak 0 tells none", p.size(0, 0, 0, 0), UNKNOWN);
        Due.is("peak 0 tells none", p.size(0, 0, 0, NONE), UNKNOWN);
        p.beat(0, 0, 0, 8);
        p.beat(0, 1, 0, 8);
        Due.is("DISTANCE 0", p.size(0, 0, 0, 0), 30);
        // LEVEL of 3 is 15, three times that by 2 is 22
        Due.is("DISTANCE 2", p.size(0, 0, 0, 1), 52);
        Due.is("both", p.size(0, 0, 0, NONE), 41);
        p.habit(0, -50);
        p.habit(1, -33);
        Due.is("(-20 + 19) by 2, downwards", p.size(0, 0, 0, NONE), -1);
        p.habit(1, -50);
        Due.is("(-20 + 2) by 2", p.size(0, 0, 0, NONE), -9);
        Due.is("another cell", p.size(0, 0, 2, 1), -20);
        Due.is("cellar 2", p.size(0, 0, 0, 2), UNKNOWN);
        Due.is("cellar 3", p.size(0, 0, 0, 3), UNKNOWN);
        Due.is("cellar -2", p.size(0, 0, 0, -2), UNKNOWN);
        Due.is("x 40", p.size(0, 40, 0, NONE), UNKNOWN);
        Due.is("y -1", p.size(0, 0, -1, 0), UNKNOWN);
        Due.is("quake 1", p.size(1, 0, 0, NONE), UNKNOWN);
    }

    private static void places() {
        CellarPen p = new CellarPen();
        Due.no("no quake", p.place(0, 0, 0));
        p.quake();
        Due.no("x 40", p.place(0, 40, 0));
        Due.no("y 40", p.place(0, 0, 40));
        Due.no("x -1", p.place(0, -1, 0));
        Due.yes("a corner", p.place(0, 0, 39));
        Due.yes("anew", p.place(0, 39, 0));
        Due.no("quake 1", p.place(1, 0, 0));
    }

    private static void owns() {
        CellarPen p = new CellarPen();
        Due.is("no cellar", p.own(0), UNKNOWN);
        p.cellar(0, 0);
        p.cellar(0, 0);
        p.cellar(0, 0);
        p.quake();
        p.quake();
        p.quake();
        p.read(0, 0, 0, 0);
        p.beat(0, 0, 0, 8);
        p.place(0, 0, 0);
        Due.is("none other", p.own(0), UNKNOWN);
        p.read(0, 1, 0, 0);
        Due.is("none other that tells", p.own(0), UNKNOWN);
        p.beat(0, 1, 0, 4);
        Due.is("others less it", p.own(0), -10);
        Due.is("the other way", p.own(1), 10);
        Due.is("2 tells none", p.own(2), UNKNOWN);
        p.read(0, 2, 0, 0);
        p.beat(0, 2, 0, 5);
        Due.is("(20 + 22) by 2, less 30", p.own(0), -9);
        p.habit(0, 40);
        Due.is("without its own habit", p.own(0), -9);
        p.habit(1, 1);
        Due.is("(21 + 22) by 2, downwards", p.own(0), -9);
        p.habit(1, -1);
        Due.is("(19 + 22) by 2, downwards", p.own(0), -10);
        Due.is("with the habits of others", p.own(1), (70 + 22) / 2 - 20);
        // a second QUAKE, at first without a PLACE
        p.read(1, 0, 0, 0);
        p.beat(1, 0, 0, 8);
        p.read(1, 2, 0, 0);
        p.beat(1, 2, 0, 8);
        Due.is("without a place", p.own(0), -10);
        p.place(1, 3, 3);
        Due.is("(-10 + 0) by 2", p.own(0), -5);
        p.beat(1, 2, 0, 9);
        Due.is("(-10 + 1) by 2, downwards", p.own(0), -5);
        p.place(2, 0, 0);
        Due.is("one that has no readings", p.own(0), -5);
        Due.is("cellar 3", p.own(3), UNKNOWN);
        Due.is("cellar -1", p.own(-1), UNKNOWN);
        CellarPen far = new CellarPen();
        far.cellar(0, 0);
        far.cellar(5, 0);
        far.quake();
        far.read(0, 0, 0, 0);
        far.read(0, 1, 0, 0);
        far.beat(0, 0, 0, 1);
        far.beat(0, 1, 0, 1);
        far.place(0, 0, 0);
        Due.is("by its distance", far.own(0), 37);
        far.place(0, 5, 0);
        Due.is("by its new place", far.own(0), -37);
    }

    private static void picks() {
        CellarPen p = new CellarPen();
        Due.is("empty", p.pick(NONE), 0);
        Due.is("-2", p.pick(-2), NONE - 1);
        Due.is("beyond", p.pick(10000000), NONE - 1);
        Due.is("0", p.pick(0), 1);
        Due.is("0 again", p.pick(0), NONE - 1);
        for (int i = 1; i < 7; i++) {
            Due.is("pick " + i, p.pick(i), i + 1);
        }
        Due.is("not above the last", p.pick(5), NONE - 1);
        Due.is("the last", p.pick(9999999), 8);
        Due.is("the ninth", p.pick(9999999), NONE - 1);
        Due.is("look", p.look(4), 8);
        Due.is("empty again", p.pick(NONE), 0);
        Due.is("look", p.look(4), 0);
        for (int i = 0; i < 8; i++) {
            p.pick(10 * i);
        }
        Due.is("the ninth", p.pick(1000), NONE - 1);
    }

    private static void parted() {
        CellarPen p = new CellarPen();
        Due.is("no times", p.parted(0), 1);
        Due.is("w -1", p.parted(-1), NONE);
        Due.is("w 10000", p.parted(10000), NONE);
        int[] ways = {1, 0, 1, 0, 3, 0, 15, 0, 105};
        for (int i = 1; i <= 8; i++) {
            p.pick(10 * i);
            Due.is(i + " times", p.parted(9999), ways[i]);
            Due.is(i + " times", p.parted(0), 0);
        }
        Due.is("neighbours alone", p.parted(10), 1);
        Due.is("neighbours alone", p.parted(19), 1);
        Due.is("w -1 of an odd number", p.parted(-1), NONE);
        p.pick(NONE);
        p.pick(5);
        p.pick(25);
        Due.is("just w", p.parted(20), 1);
        Due.is("below", p.parted(19), 0);
        p.pick(30);
        p.pick(10024);
        Due.is("too long a wait", p.parted(9999), 2);
    }

    private static void couples() {
        CellarPen p = new CellarPen();
        Due.is("no times", p.couples(0, 0, 0), NONE);
        p.pick(0);
        p.pick(70);
        p.pick(140);
        Due.is("three times", p.couples(10, 10, 0), NONE);
        p.pick(210);
        // waits: 70 and 70; 140 and 140; 210 and 70
        Due.is("10, 10", p.couples(10, 10, 0), 1);
        Due.is("20, 20", p.couples(20, 20, 0), 1);
        Due.is("30, 10", p.couples(30, 10, 0), 1);
        Due.is("10, 30", p.couples(10, 30, 0), 1);
        Due.is("30, 30", p.couples(30, 30, 0), 0);
        Due.is("within a doubt of 70", p.couples(20, 20, 70), 3);
        Due.is("within a doubt of 69", p.couples(20, 20, 69), 1);
        Due.is("0, 55", p.couples(0, 55, 999), 3);
        Due.is("d -1", p.couples(-1, 0, 0), NONE);
        Due.is("d 56", p.couples(56, 0, 0), NONE);
        Due.is("e -1", p.couples(0, -1, 0), NONE);
        Due.is("e 56", p.couples(0, 56, 0), NONE);
        Due.is("u -1", p.couples(0, 0, -1), NONE);
        Due.is("u 1000", p.couples(0, 0, 1000), NONE);
        p.waves(10, 24);
        Due.is("by the waves of now", p.couples(5, 5, 0), 1);
        p.pick(211);
        Due.is("five times", p.couples(5, 5, 0), NONE);
    }
}
