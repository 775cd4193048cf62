/** Promises 37 to 42: ENTRIES, JOINED, QUARRIES, FELT, OFF and LEAN, and looking. */
public final class CatalogueTest {
    private static final int NONE = CellarPen.NONE;
    private static final int UNKNOWN = CellarPen.UNKNOWN;

    public static void main(String[] args) {
        entries();
        joined();
        takenInOrder();
        quarries();
        felt();
        shaken();
        look();
        Due.finish("CatalogueTest");
    }

    private static void entries() {
        CellarPen p = new CellarPen();
        Due.is("k -1", p.entry(-1, 0, 0, 0, 0), NONE);
        Due.is("k 2", p.entry(2, 0, 0, 0, 0), NONE);
        Due.is("day -1", p.entry(0, -1, 0, 0, 0), NONE);
        Due.is("day 10000", p.entry(0, 10000, 0, 0, 0), NONE);
        Due.is("hour -1", p.entry(0, 0, -1, 0, 0), NONE);
        Due.is("hour 24", p.entry(0, 0, 24, 0, 0), NONE);
        Due.is("cell -1", p.entry(0, 0, 0, -1, 0), NONE);
        Due.is("cell 1600", p.entry(0, 0, 0, 1600, 0), NONE);
        Due.is("size -1", p.entry(0, 0, 0, 0, -1), NONE);
        Due.is("size 1000", p.entry(0, 0, 0, 0, 1000), NONE);
        Due.is("none", p.look(3), 0);
        Due.is("the ends", p.entry(0, 9999, 23, 1599, 999), 0);
        Due.is("the other ends", p.entry(0, 0, 0, 0, 0), 1);
        for (int i = 2; i < 100; i++) {
            Due.is("entry " + i, p.entry(0, 0, 0, 0, 0), i);
        }
        Due.is("the 101st", p.entry(0, 0, 0, 0, 0), NONE);
        for (int i = 0; i < 100; i++) {
            Due.is("entry " + i + " of 1", p.entry(1, 0, 0, 0, 0), i);
        }
        Due.is("the 101st of 1", p.entry(1, 0, 0, 0, 0), NONE);
        Due.is("200", p.look(3), 200);
        Due.is("99 couples, one over on each side", p.joined(0, 0, 0), 101);
    }

    private static int pair(int h, int r, int z) {
        CellarPen p = new CellarPen();
        p.entry(0, 5, 23, 40 * 3 + 4, 100);
        p.entry(1, 6, 2, 40 * 6 + 8, 110);
        return p.joined(h, r, z);
    }

    private static void joined() {
        CellarPen p = new CellarPen();
        Due.is("nothing", p.joined(0, 0, 0), 0);
        Due.is("just so", pair(3, 5, 10), 1);
        Due.is("2 hours", pair(2, 5, 10), 2);
        Due.is("4 cells", pair(3, 4, 10), 2);
        Due.is("9 in size", pair(3, 5, 9), 2);
        Due.is("the ends", pair(999, 55, 999), 1);
        Due.is("h -1", pair(-1, 0, 0), NONE);
        Due.is("h 1000", pair(1000, 0, 0), NONE);
        Due.is("r -1", pair(0, -1, 0), NONE);
        Due.is("r 56", pair(0, 56, 0), NONE);
        Due.is("z -1", pair(0, 0, -1), NONE);
        Due.is("z 1000", pair(0, 0, 1000), NONE);
    }

    private static void takenInOrder() {
        CellarPen p = new CellarPen();
        p.entry(0, 0, 5, 0, 0);
        p.entry(0, 0, 1, 0, 0);
        p.entry(1, 0, 4, 0, 0);
        p.entry(1, 0, 9, 0, 0);
        // the first of 0 takes the first of 1 that is SAME, though the second could have none other
        Due.is("the first is taken", p.joined(4, 0, 0), 3);
        Due.is("and anew in the next call", p.joined(4, 0, 0), 3);
        Due.is("all", p.joined(8, 0, 0), 2);
        Due.is("the second alone", p.joined(3, 0, 0), 3);
        Due.is("none", p.joined(0, 0, 0), 4);
        p.entry(1, 0, 5, 0, 0);
        Due.is("the first SAME, not the nearest", p.joined(3, 0, 0), 4);
    }

    private static void quarries() {
        CellarPen p = new CellarPen();
        Due.is("nothing", p.quarries(55, 1, 0), 0);
        Due.is("nothing", p.quarries(55, 1, 1), NONE);
        int here = 40 * 10 + 10;
        p.entry(0, 1, 8, here, 0);
        Due.is("hour 8", p.quarries(0, 1, 1), here);
        p.entry(0, 5, 17, here, 0);
        Due.is("two", p.quarries(0, 2, 0), 1);
        Due.is("three", p.quarries(0, 3, 0), 0);
        Due.is("within 1 and less than 2", p.quarries(1, 2, 0), 9);
        Due.is("the first of them", p.quarries(1, 2, 1), 40 * 9 + 9);
        Due.is("all", p.quarries(55, 2, 0), 1600);
        Due.is("r -1", p.quarries(-1, 1, 0), NONE);
        Due.is("r 56", p.quarries(56, 1, 0), NONE);
        Due.is("n 0", p.quarries(0, 0, 0), NONE);
        Due.is("n 101", p.quarries(0, 101, 0), NONE);
        Due.is("n 100", p.quarries(0, 100, 0), 0);
        Due.is("what 2", p.quarries(0, 1, 2), NONE);
        Due.is("what -1", p.quarries(0, 1, -1), NONE);
        p.entry(1, 1, 0, here, 0);
        Due.is("catalogue 1 is not asked", p.quarries(0, 1, 0), 1);
        p.entry(0, 1, 7, here + 2, 0);
        Due.is("an entry at night near it", p.quarries(1, 1, 0), 3 * 2);
        Due.is("and none so far", p.quarries(0, 1, 0), 1);
        CellarPen late = new CellarPen();
        late.entry(0, 1, 18, here, 0);
        Due.is("hour 18", late.quarries(0, 1, 0), 0);
        CellarPen rest = new CellarPen();
        rest.entry(0, 13, 12, here, 0);
        Due.is("day 13 is 6 modulo 7", rest.quarries(0, 1, 0), 0);
        CellarPen work = new CellarPen();
        work.entry(0, 14, 12, here, 0);
        Due.is("day 14", work.quarries(0, 1, 0), 1);
    }

    private static void felt() {
        CellarPen p = new CellarPen();
        Due.is("no entry", p.felt(0, 0, 0), NONE);
        p.entry(1, 0, 0, 0, 0);
        Due.is("not one of 0", p.felt(0, 0, 0), NONE);
        p.entry(0, 0, 0, 0, 500);
        Due.is("cell -1", p.felt(-1, 0, 0), NONE);
        Due.is("cell 1600", p.felt(1600, 0, 0), NONE);
        Due.is("entry -1", p.felt(0, -1, 0), NONE);
        Due.is("entry 1", p.felt(0, 1, 0), NONE);
        Due.is("size -1", p.felt(0, 0, -1), NONE);
        Due.is("size 1000", p.felt(0, 0, 1000), NONE);
        for (int i = 1; i <= 100; i++) {
            Due.is("felt " + i, p.felt(1599, 0, 999), i);
        }
        Due.is("the 101st", p.felt(0, 0, 0), NONE);
        Due.is("look", p.look(5), 100);
        // LEVEL of 56 is 57, three times that by 2 is 85
        Due.is("the last", p.shaken(109), 415);
        Due.is("off", p.shaken(0), 100 * 584);
        Due.is("lean", p.shaken(1), -100 * 584);
        Due.is("none such", p.shaken(110), UNKNOWN);
    }

    private static void shaken() {
        CellarPen p = new CellarPen();
        Due.is("off of nothing", p.shaken(0), 0);
        Due.is("lean of nothing", p.shaken(1), 0);
        Due.is("none felt", p.shaken(10), UNKNOWN);
        p.entry(0, 0, 0, 40 * 5 + 5, 40);
        p.entry(0, 0, 0, 0, 3);
        p.felt(40 * 5 + 5, 0, 50);
        p.felt(40 * 5 + 7, 0, 10);
        p.felt(40 * 5 + 7, 1, 2);
        Due.is("at the cell itself", p.shaken(10), 40);
        Due.is("two cells off", p.shaken(11), 40 - 22);
        Due.is("at least 0", p.shaken(12), 0);
        Due.is("off", p.shaken(0), 10 + 8 + 2);
        Due.is("lean", p.shaken(1), -10 + 8 - 2);
        Due.is("what 2", p.shaken(2), UNKNOWN);
        Due.is("what 9", p.shaken(9), UNKNOWN);
        Due.is("what 13", p.shaken(13), UNKNOWN);
        Due.is("what -1", p.shaken(-1), UNKNOWN);
        Due.is("what MAX", p.shaken(Integer.MAX_VALUE), UNKNOWN);
    }

    private static void look() {
        CellarPen p = new CellarPen();
        p.cellar(0, 0);
        for (int i = 0; i < 2; i++) {
            p.quake();
        }
        Due.rules(p, "truck when 1=1;truck when 1=1;truck when 1=1;");
        for (int i = 0; i < 2; i++) {
            p.entry(0, 0, 0, 0, 0);
            p.entry(1, 0, 0, 0, 0);
        }
        for (int i = 0; i < 5; i++) {
            p.pick(i);
        }
        for (int i = 0; i < 6; i++) {
            p.felt(0, 0, 0);
        }
        for (int what = 0; what <= 5; what++) {
            Due.is("look " + what, p.look(what), what + 1);
        }
        Due.is("what 6", p.look(6), NONE);
        Due.is("what -1", p.look(-1), NONE);
    }
}
