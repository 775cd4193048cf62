/** The sentences of part 5, and of promises 37 to 42, that name a boundary. */
public final class CatalogueEdgeTest {
    private static final int NONE = CellarPen.NONE;
    private static final int UNKNOWN = CellarPen.UNKNOWN;
    private static final int HERE = 40 * 20 + 20;

    public static void main(String[] args) {
        hundredEntries();
        entriesEnds();
        sameHours();
        sameCells();
        sameSizes();
        sameBounds();
        takenOnce();
        takenInOrder();
        joinedFull();
        quarryNumber();
        quarryReach();
        quarryHours();
        quarryDays();
        quarryBounds();
        quarryFirst();
        foretold();
        foretoldAtLeastZero();
        cellsOfThisPart();
        hundredFelt();
        feltOfEntries();
        offAndLean();
        shakenBounds();
        looks();
        manyCalls();
        Due.finish("CatalogueEdgeTest");
    }

    private static void hundredEntries() {
        Due.says("CATALOGUES 0, 1: ENTRIES (100 each)");
        CellarPen p = new CellarPen();
        for (int i = 0; i < 100; i++) {
            Due.is("entry " + i + " of 0", p.entry(0, 0, 0, 0, 0), i);
            Due.is("entry " + i + " of 1", p.entry(1, 0, 0, 0, 0), i);
        }
        Due.says("An ENTRY: its number; NONE if one can't be, or there are 100.");
        Due.is("the 101st of 0", p.entry(0, 0, 0, 0, 0), NONE);
        Due.is("the 101st of 1", p.entry(1, 0, 0, 0, 0), NONE);
        Due.is("200 of both", p.look(3), 200);
        CellarPen one = new CellarPen();
        for (int i = 0; i < 100; i++) {
            one.entry(1, 0, 0, 0, 0);
        }
        Due.is("1 is full", one.entry(1, 0, 0, 0, 0), NONE);
        Due.is("0 is not", one.entry(0, 0, 0, 0, 0), 0);
        Due.is("no catalogue 2", one.entry(2, 0, 0, 0, 0), NONE);
        Due.is("no catalogue -1", one.entry(-1, 0, 0, 0, 0), NONE);
        Due.is("101 of both", one.look(3), 101);
    }

    private static void entriesEnds() {
        Due.says("of a DAY 0 .. 9999, an HOUR 0 .. 23, a CELL, a SIZE 0 .. 999.");
        CellarPen p = new CellarPen();
        int[][] bad = {{-1, 0, 0, 0}, {10000, 0, 0, 0}, {0, -1, 0, 0}, {0, 24, 0, 0}, {0, 0, -1, 0}, {0, 0, 1600, 0},
            {0, 0, 0, -1}, {0, 0, 0, 1000}};
        for (int k = 0; k <= 1; k++) {
            for (int[] e : bad) {
                Due.is("can't be", p.entry(k, e[0], e[1], e[2], e[3]), NONE);
            }
            Due.is("all least", p.entry(k, 0, 0, 0, 0), 0);
            Due.is("all most", p.entry(k, 9999, 23, 1599, 999), 1);
        }
        Due.is("two in each", p.look(3), 4);
        Due.is("just so they are the same", p.joined(0, 0, 0), 2);
    }

    /** How many there are together, of one ENTRY in each: 1, if they are SAME. */
    private static int pair(int[] one, int[] other, int h, int r, int z) {
        CellarPen p = new CellarPen();
        p.entry(0, one[0], one[1], one[2], one[3]);
        p.entry(1, other[0], other[1], other[2], other[3]);
        return p.joined(h, r, z);
    }

    private static int[] entry(int day, int hour, int cell, int size) {
        return new int[] {day, hour, cell, size};
    }

    private static void sameHours() {
        Due.says("SAME: an ENTRY of 0 and one of 1 not farther than h HOURS");
        Due.is("the same hour", pair(entry(5, 7, 0, 0), entry(5, 7, 0, 0), 0, 0, 0), 1);
        Due.is("an hour later", pair(entry(5, 7, 0, 0), entry(5, 8, 0, 0), 0, 0, 0), 2);
        Due.is("an hour later", pair(entry(5, 7, 0, 0), entry(5, 8, 0, 0), 1, 0, 0), 1);
        Due.is("an hour ahead", pair(entry(5, 8, 0, 0), entry(5, 7, 0, 0), 1, 0, 0), 1);
        Due.is("over midnight", pair(entry(5, 23, 0, 0), entry(6, 0, 0, 0), 1, 0, 0), 1);
        Due.is("over midnight", pair(entry(6, 0, 0, 0), entry(5, 23, 0, 0), 0, 0, 0), 2);
        Due.is("a day later", pair(entry(5, 7, 0, 0), entry(6, 7, 0, 0), 24, 0, 0), 1);
        Due.is("a day later", pair(entry(5, 7, 0, 0), entry(6, 7, 0, 0), 23, 0, 0), 2);
        // 41 days and 15 hours are 999
        Due.is("999 hours", pair(entry(0, 0, 0, 0), entry(41, 15, 0, 0), 999, 0, 0), 1);
        Due.is("1000 hours", pair(entry(0, 0, 0, 0), entry(41, 16, 0, 0), 999, 0, 0), 2);
        Due.is("all days", pair(entry(0, 0, 0, 0), entry(9999, 23, 0, 0), 999, 55, 999), 2);
    }

    private static void sameCells() {
        Due.says("r CELLS (DISTANCE)");
        Due.is("the same cell", pair(entry(0, 0, HERE, 0), entry(0, 0, HERE, 0), 0, 0, 0), 1);
        Due.is("aside", pair(entry(0, 0, HERE, 0), entry(0, 0, HERE + 1, 0), 0, 0, 0), 2);
        Due.is("aside", pair(entry(0, 0, HERE, 0), entry(0, 0, HERE + 41, 0), 0, 1, 0), 1);
        Due.is("3, 4", pair(entry(0, 0, HERE, 0), entry(0, 0, HERE + 3 + 160, 0), 0, 5, 0), 1);
        Due.is("3, 4", pair(entry(0, 0, HERE, 0), entry(0, 0, HERE + 3 + 160, 0), 0, 4, 0), 2);
        Due.is("a row's end is not near the next row", pair(entry(0, 0, 39, 0), entry(0, 0, 40, 0), 0, 38, 0), 2);
        Due.is("a row's end is 39 off", pair(entry(0, 0, 39, 0), entry(0, 0, 40, 0), 0, 39, 0), 1);
        Due.is("corners", pair(entry(0, 0, 0, 0), entry(0, 0, 1599, 0), 0, 55, 0), 1);
        Due.is("corners", pair(entry(0, 0, 1560, 0), entry(0, 0, 39, 0), 0, 54, 0), 2);
    }

    private static void sameSizes() {
        Due.says("z in SIZE.");
        Due.is("the same", pair(entry(0, 0, 0, 50), entry(0, 0, 0, 50), 0, 0, 0), 1);
        Due.is("greater by 1", pair(entry(0, 0, 0, 50), entry(0, 0, 0, 51), 0, 0, 0), 2);
        Due.is("greater by 1", pair(entry(0, 0, 0, 50), entry(0, 0, 0, 51), 0, 0, 1), 1);
        Due.is("less by 1", pair(entry(0, 0, 0, 51), entry(0, 0, 0, 50), 0, 0, 1), 1);
        Due.is("both ends", pair(entry(0, 0, 0, 0), entry(0, 0, 0, 999), 0, 0, 999), 1);
        Due.is("both ends", pair(entry(0, 0, 0, 999), entry(0, 0, 0, 0), 0, 0, 998), 2);
    }

    private static void sameBounds() {
        Due.says("JOINED; NONE if one can't be (h 0 .. 999, r 0 .. 55, z 0 .. 999).");
        CellarPen p = new CellarPen();
        Due.is("no entries", p.joined(0, 0, 0), 0);
        Due.is("no entries", p.joined(999, 55, 999), 0);
        int[][] bad = {{-1, 0, 0}, {1000, 0, 0}, {0, -1, 0}, {0, 56, 0}, {0, 0, -1}, {0, 0, 1000}};
        for (int[] row : bad) {
            Due.is("can't be", p.joined(row[0], row[1], row[2]), NONE);
        }
        p.entry(0, 0, 0, 0, 0);
        Due.is("of 0 alone", p.joined(0, 0, 0), 1);
        CellarPen other = new CellarPen();
        other.entry(1, 0, 0, 0, 0);
        Due.is("of 1 alone", other.joined(0, 0, 0), 1);
    }

    private static void takenOnce() {
        Due.says("take each the first of 1 that is SAME and not taken: how many ENTRIES there are together then.");
        CellarPen p = new CellarPen();
        p.entry(0, 0, 0, 0, 0);
        p.entry(0, 0, 0, 0, 0);
        p.entry(1, 0, 0, 0, 0);
        Due.is("two of 0, one of 1", p.joined(0, 0, 0), 2);
        Due.is("asked again", p.joined(0, 0, 0), 2);
        p.entry(1, 0, 0, 0, 0);
        Due.is("two and two", p.joined(0, 0, 0), 2);
        p.entry(1, 0, 0, 0, 0);
        Due.is("two and three", p.joined(0, 0, 0), 3);
        Due.is("the catalogues stay", p.look(3), 5);
    }

    private static void takenInOrder() {
        Due.says("ENTRIES of 0 in their order take each the first of 1");
        CellarPen p = new CellarPen();
        // the first of 0 could take both, the second the first one of 1 alone
        p.entry(0, 0, 5, 0, 0);
        p.entry(0, 0, 3, 0, 0);
        p.entry(1, 0, 4, 0, 0);
        p.entry(1, 0, 6, 0, 0);
        Due.is("the first is taken by the first", p.joined(1, 0, 0), 3);
        CellarPen turned = new CellarPen();
        turned.entry(0, 0, 3, 0, 0);
        turned.entry(0, 0, 5, 0, 0);
        turned.entry(1, 0, 4, 0, 0);
        turned.entry(1, 0, 6, 0, 0);
        Due.is("the other order", turned.joined(1, 0, 0), 2);
    }

    private static void joinedFull() {
        Due.says("CATALOGUES 0, 1: ENTRIES (100 each)");
        CellarPen p = new CellarPen();
        for (int i = 0; i < 100; i++) {
            p.entry(0, 5, i % 24, i, i);
            p.entry(1, 5, (99 - i) % 24, 99 - i, 99 - i);
        }
        Due.is("all are the same, in the other order", p.joined(0, 0, 0), 100);
        Due.is("wider, none is taken twice", p.joined(999, 55, 999), 100);
        CellarPen apart = new CellarPen();
        for (int i = 0; i < 100; i++) {
            apart.entry(0, i, 0, 0, 0);
            apart.entry(1, i, 1, 0, 0);
        }
        Due.is("none is the same", apart.joined(0, 55, 999), 200);
    }

    private static CellarPen withEntries(int count, int day, int hour) {
        CellarPen p = new CellarPen();
        for (int i = 0; i < count; i++) {
            p.entry(0, day, hour, HERE, 0);
        }
        return p;
    }

    private static void quarryNumber() {
        Due.says("n ENTRIES at least not farther than r from it");
        CellarPen p = withEntries(3, 0, 12);
        Due.is("n 2", p.quarries(0, 2, 0), 1);
        Due.is("n 3", p.quarries(0, 3, 0), 1);
        Due.is("n 4", p.quarries(0, 4, 0), 0);
        CellarPen full = withEntries(100, 0, 12);
        Due.is("n 100", full.quarries(0, 100, 0), 1);
        Due.is("n 100, everywhere", full.quarries(55, 100, 0), 1600);
        CellarPen less = withEntries(99, 0, 12);
        Due.is("n 100 of 99", less.quarries(55, 100, 0), 0);
        Due.is("n 99 of 99", less.quarries(55, 99, 0), 1600);
    }

    private static void quarryReach() {
        Due.says("not farther than r from it");
        CellarPen p = new CellarPen();
        p.entry(0, 0, 12, 0, 0);
        Due.is("r 0", p.quarries(0, 1, 0), 1);
        Due.is("r 1: the corner and three", p.quarries(1, 1, 0), 4);
        Due.is("r 54: all but the farthest", p.quarries(54, 1, 0), 1600 - 1);
        Due.is("r 55: all", p.quarries(55, 1, 0), 1600);
        // an ENTRY at night far off spoils those CELLS alone that it is near to
        p.entry(0, 0, 0, 1599, 0);
        Due.is("r 0, the other cell is none", p.quarries(0, 1, 0), 1);
        Due.is("r 55: none", p.quarries(55, 1, 0), 0);
        Due.is("r 54: all but those near the other", p.quarries(54, 1, 0), 1);
        Due.is("r 54: the corner", p.quarries(54, 1, 1), 0);
    }

    private static void quarryHours() {
        Due.says("all at HOURS 8 .. 17");
        for (int hour = 0; hour < 24; hour++) {
            Due.is("hour " + hour, withEntries(1, 3, hour).quarries(0, 1, 0), hour >= 8 && hour <= 17 ? 1 : 0);
        }
        CellarPen p = withEntries(5, 0, 12);
        p.entry(0, 0, 7, HERE, 0);
        Due.is("one at 7 among others", p.quarries(0, 1, 0), 0);
        Due.is("one at 7 is near to all", p.quarries(55, 1, 1), NONE);
    }

    private static void quarryDays() {
        Due.says("none on a DAY that is 6 modulo 7.");
        for (int day = 0; day < 15; day++) {
            Due.is("day " + day, withEntries(1, day, 12).quarries(0, 1, 0), day == 6 || day == 13 ? 0 : 1);
        }
        // 9996 is 7 times 1428
        Due.is("day 9999", withEntries(1, 9999, 12).quarries(0, 1, 0), 1);
        Due.is("day 9995", withEntries(1, 9995, 12).quarries(0, 1, 0), 0);
        CellarPen p = withEntries(5, 0, 12);
        p.entry(0, 6, 12, HERE, 0);
        Due.is("one on day 6 among others", p.quarries(0, 1, 0), 0);
    }

    private static void quarryBounds() {
        Due.says("QUARRIES for r, n (r 0 .. 55, n 1 .. 100)");
        CellarPen p = withEntries(1, 0, 12);
        int[][] bad = {{-1, 1}, {56, 1}, {0, 0}, {0, 101}, {0, -1}};
        for (int[] row : bad) {
            Due.is("can't be, 0", p.quarries(row[0], row[1], 0), NONE);
            Due.is("can't be, 1", p.quarries(row[0], row[1], 1), NONE);
        }
        Due.is("what 2", p.quarries(0, 1, 2), NONE);
        Due.is("what -1", p.quarries(0, 1, -1), NONE);
        Due.says("NONE if there is none (for 1)");
        Due.is("none", p.quarries(0, 2, 1), NONE);
        Due.is("how many is 0", p.quarries(0, 2, 0), 0);
        CellarPen none = new CellarPen();
        Due.is("no entries", none.quarries(55, 1, 0), 0);
        Due.is("no entries", none.quarries(55, 1, 1), NONE);
        Due.says("a CELL is a QUARRY in CATALOGUE 0");
        none.entry(1, 0, 12, HERE, 0);
        Due.is("1 is not asked", none.quarries(55, 1, 0), 0);
        p.entry(1, 6, 0, HERE, 0);
        Due.is("1 spoils nothing", p.quarries(0, 1, 0), 1);
    }

    private static void quarryFirst() {
        Due.says("what 0 how many, 1 the first (40 y + x).");
        CellarPen p = new CellarPen();
        p.entry(0, 0, 12, 1599, 0);
        Due.is("the last cell", p.quarries(0, 1, 1), 1599);
        p.entry(0, 0, 12, HERE, 0);
        Due.is("a row ahead", p.quarries(0, 1, 1), HERE);
        p.entry(0, 0, 12, HERE - 1, 0);
        Due.is("a cell ahead", p.quarries(0, 1, 1), HERE - 1);
        p.entry(0, 0, 12, 0, 0);
        Due.is("the first cell", p.quarries(0, 1, 1), 0);
        Due.is("four", p.quarries(0, 1, 0), 4);
    }

    private static void foretold() {
        Due.says("FORETOLD at a CELL of an ENTRY: SIZE less 3 times LEVEL of (DISTANCE and 1) by 2");
        CellarPen p = new CellarPen();
        p.entry(0, 0, 0, 0, 999);
        p.felt(0, 0, 0);
        p.felt(1, 0, 0);
        p.felt(80, 0, 0);
        p.felt(1599, 0, 0);
        Due.is("DISTANCE 0", p.shaken(10), 999);
        Due.is("DISTANCE 1", p.shaken(11), 999 - 15);
        Due.is("DISTANCE 2: 45 by 2 is 22", p.shaken(12), 999 - 22);
        Due.is("DISTANCE 55", p.shaken(13), 999 - 85);
    }

    private static void foretoldAtLeastZero() {
        Due.says("at least 0.");
        int[][] due = {{0, 0}, {14, 0}, {15, 0}, {16, 1}};
        for (int[] row : due) {
            CellarPen p = new CellarPen();
            p.entry(0, 0, 0, 0, row[0]);
            p.felt(1, 0, 5);
            Due.is("SIZE " + row[0] + " one cell off", p.shaken(10), row[1]);
            Due.is("lean of it", p.shaken(1), row[1] - 5);
            Due.is("off of it", p.shaken(0), 5 - row[1]);
        }
    }

    private static void cellsOfThisPart() {
        Due.says("CELLS are 40 y + x in calls of this part.");
        CellarPen p = new CellarPen();
        // x 39, y 0 and x 0, y 1 are next to one another as numbers, and 39 CELLS apart
        p.entry(0, 0, 12, 39, 500);
        Due.is("the entry's cell", p.quarries(0, 1, 1), 39);
        p.felt(39, 0, 0);
        p.felt(79, 0, 0);
        p.felt(40, 0, 0);
        Due.is("the same cell", p.shaken(10), 500);
        Due.is("one below it", p.shaken(11), 485);
        Due.is("39 off: LEVEL of 40 is 52", p.shaken(12), 500 - 78);
    }

    private static void hundredFelt() {
        Due.says("FELT are told: a CELL, an ENTRY of 0, a SIZE 0 .. 999 (100 in all).");
        CellarPen p = new CellarPen();
        p.entry(0, 0, 0, 0, 10);
        p.entry(0, 0, 0, 0, 20);
        for (int i = 1; i <= 100; i++) {
            Due.is("felt " + i, p.felt(0, i % 2, i), i);
        }
        Due.says("FELT: how many; NONE if one can't be, or there are 100.");
        Due.is("the 101st", p.felt(0, 0, 0), NONE);
        Due.is("of the other entry", p.felt(0, 1, 0), NONE);
        Due.is("100", p.look(5), 100);
        Due.is("the first", p.shaken(10), 20);
        Due.is("the last", p.shaken(109), 10);
        Due.is("no 101st", p.shaken(110), UNKNOWN);
        Due.is("lean", p.shaken(1), 50 * 10 + 50 * 20 - 5050);
    }

    private static void feltOfEntries() {
        Due.says("FELT: how many; NONE if one can't be");
        CellarPen p = new CellarPen();
        Due.is("no entry 0", p.felt(0, 0, 0), NONE);
        p.entry(1, 0, 0, 0, 0);
        Due.is("one of 1 is none of 0", p.felt(0, 0, 0), NONE);
        p.entry(0, 0, 0, 0, 0);
        int[][] bad = {{-1, 0, 0}, {1600, 0, 0}, {0, -1, 0}, {0, 1, 0}, {0, 0, -1}, {0, 0, 1000}};
        for (int[] row : bad) {
            Due.is("can't be", p.felt(row[0], row[1], row[2]), NONE);
        }
        Due.is("none", p.look(5), 0);
        Due.is("all least", p.felt(0, 0, 0), 1);
        Due.is("all most", p.felt(1599, 0, 999), 2);
        for (int i = 1; i < 100; i++) {
            p.entry(0, 0, 0, 0, 0);
        }
        Due.is("the last entry", p.felt(0, 99, 0), 3);
        Due.is("none behind it", p.felt(0, 100, 0), NONE);
    }

    private static void offAndLean() {
        Due.says("OFF: all FORETOLD less FELT as far as from 0 added; LEAN: added with their signs.");
        CellarPen p = new CellarPen();
        Due.is("off of none", p.shaken(0), 0);
        Due.is("lean of none", p.shaken(1), 0);
        p.entry(0, 0, 0, 0, 100);
        p.felt(0, 0, 100);
        Due.is("off, just so", p.shaken(0), 0);
        Due.is("lean, just so", p.shaken(1), 0);
        p.felt(0, 0, 130);
        Due.is("off, felt more", p.shaken(0), 30);
        Due.is("lean, felt more", p.shaken(1), -30);
        p.felt(0, 0, 70);
        Due.is("off, felt less", p.shaken(0), 60);
        Due.is("lean, felt less", p.shaken(1), 0);
        CellarPen most = new CellarPen();
        most.entry(0, 0, 0, 0, 0);
        for (int i = 0; i < 100; i++) {
            most.felt(0, 0, 999);
        }
        Due.is("the greatest off", most.shaken(0), 99900);
        Due.is("the least lean", most.shaken(1), -99900);
    }

    private static void shakenBounds() {
        Due.says("10 + i FORETOLD of FELT i. UNKNOWN if there is none such, or another what.");
        CellarPen p = new CellarPen();
        Due.is("none felt", p.shaken(10), UNKNOWN);
        p.entry(0, 0, 0, 0, 7);
        Due.is("an entry is not felt", p.shaken(10), UNKNOWN);
        p.felt(0, 0, 7);
        Due.is("felt 0", p.shaken(10), 7);
        Due.is("no felt 1", p.shaken(11), UNKNOWN);
        int[] others = {-1, 2, 3, 9, 109, 110, Integer.MAX_VALUE, Integer.MIN_VALUE};
        for (int what : others) {
            Due.is("what " + what, p.shaken(what), UNKNOWN);
        }
    }

    private static void looks() {
        Due.says("What 0 CELLARS, 1 QUAKES, 2 lines of RULES, 3 ENTRIES of both, 4 times in the row, 5 FELT. NONE for another what.");
        CellarPen p = new CellarPen();
        for (int what = 0; what <= 5; what++) {
            Due.is("of a new object, " + what, p.look(what), 0);
        }
        Due.is("-1", p.look(-1), NONE);
        Due.is("6", p.look(6), NONE);
        Due.is("the last int", p.look(Integer.MAX_VALUE), NONE);
        Due.is("the least int", p.look(Integer.MIN_VALUE), NONE);
        int[] due = new int[6];
        p.cellar(0, 0);
        due[0]++;
        looksLike(p, due);
        p.quake();
        due[1]++;
        looksLike(p, due);
        Due.rules(p, "truck when 1=1;");
        due[2]++;
        looksLike(p, due);
        p.entry(0, 0, 0, 0, 0);
        due[3]++;
        looksLike(p, due);
        p.entry(1, 0, 0, 0, 0);
        due[3]++;
        looksLike(p, due);
        p.pick(5);
        due[4]++;
        looksLike(p, due);
        p.felt(0, 0, 0);
        due[5]++;
        looksLike(p, due);
        p.pick(NONE);
        due[4] = 0;
        looksLike(p, due);
    }

    private static void looksLike(CellarPen p, int[] due) {
        for (int what = 0; what <= 5; what++) {
            Due.is("look " + what, p.look(what), due[what]);
        }
    }

    private static void manyCalls() {
        Due.says("An object is used for at most 512 calls after it has been made");
        CellarPen p = new CellarPen();
        p.entry(0, 0, 12, HERE, 500);
        p.entry(1, 0, 12, HERE, 500);
        p.felt(HERE + 1, 0, 480);
        for (int i = 4; i <= 512; i++) {
            int way = i % 4;
            int answer = way == 0 ? p.joined(0, 0, 0) : way == 1 ? p.quarries(1, 1, 0)
                : way == 2 ? p.shaken(10) : p.look(5);
            Due.is("call " + i, answer, way == 0 ? 1 : way == 1 ? 9 : way == 2 ? 485 : 1);
        }
    }
}
