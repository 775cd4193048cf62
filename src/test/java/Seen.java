/** An object with something of everything in it, and all that can be seen of it without changing it. */
final class Seen {
    static final int TAPE = 20;

    private Seen() {
    }

    /** Two CELLARS, two QUAKES, RULES and then a FAULT, four times, three ENTRIES in each CATALOGUE, two FELT. */
    static CellarPen object() {
        CellarPen p = new CellarPen();
        p.cellar(10, 10);
        p.cellar(20, 10);
        for (int c = 0; c < 2; c++) {
            for (int i = 0; i < 10; i++) {
                p.ground(c, i == 0 ? 30 : 0);
            }
            p.mark(c, 1, 5);
            p.mark(c, 5, 7);
            p.clock(c, 100, 590, 610);
            p.habit(c, 3 + c);
        }
        Due.rules(p, "truck when peak > 5 and hour < 24;");
        Due.rules(p, "truck when 1/0=1;");
        p.feed(0x20202020, 0x74727563, 0x6B207768, 0x656E2031, 0x3D312020);
        p.waves(9, 16);
        quakes(p);
        p.pick(100);
        p.pick(135);
        p.pick(170);
        p.pick(240);
        for (int i = 0; i < 3; i++) {
            p.entry(0, 7 + i, 9, 400 + i, 90 + i);
            p.entry(1, 7 + i, 11, 440 + i, 100 + i);
        }
        p.felt(405, 0, 60);
        p.felt(10, 2, 20);
        return p;
    }

    private static void quakes(CellarPen p) {
        for (int q = 0; q < 2; q++) {
            p.quake();
            for (int c = 0; c < 2; c++) {
                p.read(q, c, 1000 + 45 * c, 1045 + 45 * c);
                p.second(q, c, 1040 + 80 * c, 1080 + 80 * c);
                p.beat(q, c, 1 - 2 * c, 500 + 30 * q);
            }
            p.place(q, 12, 10 + q);
        }
    }

    /** Answers of all that asks, joined; the TAPE is cut to TAPE bytes, which it must have. */
    static String all(CellarPen p) {
        StringBuilder seen = new StringBuilder();
        for (int what = 0; what <= 5; what++) {
            seen.append(" look ").append(p.look(what));
        }
        for (int c = 0; c < p.look(0); c++) {
            cellar(p, c, seen);
        }
        seen.append(" fault ").append(p.fault(0)).append(' ').append(p.fault(1));
        for (int q = 0; q < p.look(1); q++) {
            quake(p, q, seen);
        }
        seen.append(" parted ").append(p.parted(9999)).append(' ').append(p.parted(70));
        seen.append(" couples ").append(p.couples(5, 10, 0)).append(' ').append(p.couples(5, 15, 5));
        seen.append(" joined ").append(p.joined(2, 1, 10)).append(' ').append(p.joined(1, 55, 999));
        seen.append(" quarries ").append(p.quarries(2, 3, 0)).append(' ').append(p.quarries(0, 1, 1));
        seen.append(" shaken ").append(p.shaken(0)).append(' ').append(p.shaken(1));
        seen.append(" tape ").append(p.end(TAPE + 1)).append(p.end(TAPE)).append(p.rules());
        return seen.toString();
    }

    private static void cellar(CellarPen p, int c, StringBuilder seen) {
        for (int what = 1000; what <= 1005; what++) {
            seen.append(" at ").append(p.at(c, what));
        }
        for (int i = 0; i <= 11; i++) {
            seen.append(' ').append(p.at(c, i)).append(' ').append(p.back(c, i));
        }
        seen.append(" swing ").append(p.swing(c, 0, 9, 0)).append(" first ").append(p.first(c, 9));
        for (int i = 0; i <= 9; i += 3) {
            seen.append(" time ").append(p.time(c, i, 0)).append(' ').append(p.time(c, i, 1));
        }
        seen.append(" burst ").append(p.burst(c, 0, 9, 0)).append(" kind ").append(p.kind(c, 0, 9, 10, 3));
        seen.append(" own ").append(p.own(c));
    }

    private static void quake(CellarPen p, int q, StringBuilder seen) {
        for (int set = 1; set <= 3; set++) {
            seen.append(" fits ").append(p.fits(q, set, 0)).append(' ').append(p.fits(q, set, 3));
        }
        seen.append(" fit ").append(p.fit(q, 15, 10)).append(" wrong ").append(p.wrong(q));
        seen.append(" slides ").append(p.slides(q, 15, 10)).append(" size ").append(p.size(q, 12, 10, CellarPen.NONE));
        seen.append(' ').append(p.size(q, 12, 10, 0)).append(' ').append(p.size(q, 12, 10, 1));
    }
}
