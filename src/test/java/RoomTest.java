import com.sun.management.ThreadMXBean;
import java.lang.management.ManagementFactory;
import java.lang.reflect.Array;
import java.lang.reflect.Field;
import java.lang.reflect.Modifier;
import java.util.Collections;
import java.util.IdentityHashMap;
import java.util.Set;

/** What a run keeps and makes (LANGUAGE.md, rule 12): a full object stays small, and calls that ask make nothing. */
public final class RoomTest {
    private static final int MOST_OBJECTS = 200;
    private static final int MOST_ELEMENTS = 9000;
    // far below one small object a call
    private static final int MOST_BYTES = 512;

    private final Set<Object> seen = Collections.newSetFromMap(new IdentityHashMap<>());
    private int elements;

    public static void main(String[] args) throws IllegalAccessException {
        CellarPen full = full();
        RoomTest room = new RoomTest();
        room.walk(full);
        Due.yes(room.seen.size() + " objects and arrays", room.seen.size() <= MOST_OBJECTS);
        Due.yes(room.elements + " fields and elements", room.elements <= MOST_ELEMENTS);
        askingMakesNothing(full);
        Due.finish("RoomTest");
    }

    private static CellarPen full() {
        CellarPen pen = new CellarPen();
        for (int c = 0; c < 6; c++) {
            pen.cellar(6 * c, 39 - 6 * c);
            for (int i = 0; i < 12; i++) {
                pen.ground(c, i == 0 ? 40 : 0);
            }
            pen.mark(c, 2, 3);
            pen.mark(c, 9, 5);
        }
        for (int q = 0; q < 16; q++) {
            pen.quake();
            pen.place(q, 2 * q, q);
            for (int c = 0; c < 6; c++) {
                pen.read(q, c, 1000 + c, 1400 + c);
                pen.second(q, c, 1100 + c, 1800 + c);
                pen.beat(q, c, 1, 50 + q + c);
            }
        }
        for (int t = 0; t < 8; t++) {
            pen.pick(100 + 10 * t);
        }
        for (int i = 0; i < 100; i++) {
            pen.entry(i & 1, i, 9, 16 * i, 100 + i);
            pen.felt(15 * i, 0, i);
        }
        Due.rules(pen, "truck when peak / 3 * 2 > rise + 1 and not (hour < 5 or day = 6); quake when clipped > 0;");
        return pen;
    }

    private void walk(Object one) throws IllegalAccessException {
        if (one == null || !seen.add(one)) {
            return;
        }
        if (one.getClass().isArray()) {
            elements += Array.getLength(one);
            boolean isPlain = one.getClass().getComponentType().isPrimitive();
            for (int i = 0; i < Array.getLength(one) && !isPlain; i++) {
                walk(Array.get(one, i));
            }
            return;
        }
        for (Field field : one.getClass().getDeclaredFields()) {
            if (!Modifier.isStatic(field.getModifiers())) {
                elements++;
                field.setAccessible(true);
                if (!field.getType().isPrimitive()) {
                    walk(field.get(one));
                }
            }
        }
    }

    private static void askingMakesNothing(CellarPen pen) {
        if (!(ManagementFactory.getThreadMXBean() instanceof ThreadMXBean threads)) {
            return;
        }
        long sum = 0;
        // once ahead, so that classes and constants are loaded
        sum += ask(pen) + threads.getCurrentThreadAllocatedBytes();
        long before = threads.getCurrentThreadAllocatedBytes();
        sum += ask(pen);
        long made = threads.getCurrentThreadAllocatedBytes() - before;
        Due.yes("asking made " + made + " bytes (answers " + sum + ")", made <= MOST_BYTES);
    }

    /** Every call that makes nothing new by the document, thirty times. */
    private static long ask(CellarPen pen) {
        long sum = 0;
        for (int n = 0; n < 30; n++) {
            int c = n % 6;
            int q = n % 16;
            sum += pen.at(c, 1003) + pen.back(c, 5) + pen.swing(c, 0, 9, 0) + pen.time(c, 4, 1) + pen.first(c, 9);
            sum += pen.burst(c, 0, 9, 1) + pen.kind(c, 0, 9, 9, n % 7) + pen.fault(0) + pen.level(n) + pen.own(c);
            sum += pen.fits(q, 63, 0) + pen.fits(q, 5, 9) + pen.fit(q, n, n) + pen.wrong(q) + pen.slides(q, n, 3);
            sum += pen.size(q, n, n, CellarPen.NONE) + pen.size(q, n, n, c) + pen.parted(50) + pen.couples(1, 2, 3);
            sum += pen.joined(20 * n, n, n) + pen.quarries(n, 1 + n / 9, 0) + pen.shaken(0) + pen.shaken(10 + n);
            sum += pen.look(n % 6) + (pen.read(q, c, 1000, 1200) ? 1 : 0) + (pen.second(q, c, 1300, 1400) ? 1 : 0);
            sum += pen.feed(0x74727563, 0x6B207768, 0x656E2068, 0x6F75723C, 0x393B2020) + pen.rules();
            sum += pen.write(c, 3, n) && pen.pen(c, n, n, 99) && pen.habit(c, n) && pen.clock(c, n, 600, 600) ? 1 : 0;
        }
        return sum;
    }
}
