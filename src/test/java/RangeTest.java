import java.lang.reflect.InvocationTargetException;
import java.lang.reflect.Method;
import java.lang.reflect.Modifier;
import java.util.ArrayList;
import java.util.Arrays;
import java.util.List;
import java.util.Set;
import java.util.TreeSet;

/**
 * For each call and each of its numbers: both ends of what can be are taken; what lies beyond them is answered as the
 * document says for what can't be, and nothing is done. The object is that of Seen.
 */
public final class RangeTest {
    private static final int NONE = CellarPen.NONE;
    private static final int UNKNOWN = CellarPen.UNKNOWN;
    private static final String UNTOUCHED = Seen.all(Seen.object());
    private static final Set<String> TRIED = new TreeSet<>();
    private static final Set<String> ASKING = Set.of("at", "back", "swing", "time", "first", "burst", "kind", "fault",
        "fits", "fit", "wrong", "slides", "level", "size", "own", "parted", "couples", "joined", "quarries", "shaken",
        "look");

    public static void main(String[] args) throws ReflectiveOperationException {
        pens();
        clocksAndBursts();
        rules();
        quakes();
        sizes();
        catalogues();
        everyCallIsTried();
        everyChangeIsSeen();
        Due.finish("RangeTest");
    }

    private static void pens() throws ReflectiveOperationException {
        Due.says("A CELLAR: its number; NONE if one can't be, or there are six.");
        range("cellar", NONE, row(3, 4), 0, 0, 39);
        range("cellar", NONE, row(3, 4), 1, 0, 39);
        Due.says("Its PEN: true; false, and nothing is done, if one can't be.");
        range("pen", 0, row(0, 9, 17, 98), 0, 0, 1);
        range("pen", 0, row(0, 9, 17, 98), 1, 0, 63);
        range("pen", 0, row(0, 9, 17, 98), 2, 0, 63);
        range("pen", 0, row(0, 9, 17, 98), 3, 10, 999);
        Due.says("UNKNOWN, and nothing is done, if one can't be, or the PAPER has 200.");
        range("ground", UNKNOWN, row(0, 5), 0, 0, 1);
        range("ground", UNKNOWN, row(0, 5), 1, -9999, 9999);
        Due.says("i that of one or the next one: true; false if one can't be, or beyond 200.");
        range("write", 0, row(0, 3, 5), 0, 0, 1);
        range("write", 0, row(0, 3, 5), 1, 0, 10);
        range("write", 0, row(0, 3, 5), 2, -999, 999, UNKNOWN, UNKNOWN);
        Due.says("NEW PAPER: how many SAMPLES it had; NONE if there is no such CELLAR.");
        range("paper", NONE, row(0), 0, 0, 1);
        Due.says("UNKNOWN if there is none such (or it is MISSING), or another what.");
        range("at", UNKNOWN, row(0, 3), 0, 0, 1);
        range("at", UNKNOWN, row(0, 3), 1, 0, 9, 1000, 1005);
        Due.says("GROUND READ BACK at i; UNKNOWN if it is, or one can't be.");
        range("back", UNKNOWN, row(0, 3), 0, 0, 1);
        range("back", UNKNOWN, row(0, 3), 1, 2, 9);
        Due.says("one can't be (from + 2 above to, beyond the SAMPLES; some UNKNOWN), or another what.");
        for (int what = 0; what <= 2; what++) {
            range("swing", NONE, row(0, 0, 9, what), 0, 0, 1);
            range("swing", NONE, row(0, 0, 9, what), 1, 0, 7);
            range("swing", NONE, row(0, 0, 9, what), 2, 2, 9);
            range("swing", NONE, row(0, 0, 9, what), 3, 0, 2);
        }
    }

    private static void clocksAndBursts() throws ReflectiveOperationException {
        Due.says("false, and nothing is done, if one can't be (no such SAMPLE; not behind the last one), or there are 40.");
        range("mark", 0, row(0, 6, 8), 0, 0, 1);
        range("mark", 0, row(0, 6, 8), 1, 6, 9);
        range("mark", 0, row(0, 6, 8), 2, 8, 9999);
        Due.says("Its CLOCK: true; false, and nothing is done, if one can't be.");
        range("clock", 0, row(0, 5, 590, 610), 0, 0, 1);
        range("clock", 0, row(0, 5, 590, 610), 1, 0, 999999);
        range("clock", 0, row(0, 5, 590, 610), 2, 500, 610);
        range("clock", 0, row(0, 5, 590, 610), 3, 590, 700);
        range("clock", 0, row(0, 5, 700, 700), 2, 500, 700);
        range("clock", 0, row(0, 5, 500, 500), 3, 500, 700);
        Due.says("NONE if it is not between two MARKS, one can't be, or another what.");
        range("time", NONE, row(0, 2, 1), 0, 0, 1);
        range("time", NONE, row(0, 2, 1), 1, 1, 4);
        range("time", NONE, row(0, 2, 1), 2, 0, 2);
        Due.says("FIRST for a threshold 0 .. 999; NONE if there is none, or one can't be.");
        range("first", NONE, row(0, 5), 0, 0, 1);
        refused("first", NONE, row(0, -1));
        refused("first", NONE, row(0, Integer.MIN_VALUE));
        refused("first", NONE, row(0, 1000));
        taken("first", NONE, row(0, 0));
        Due.says("Of a BURST what 0 PEAK, 1 CROSSINGS, 2 RISE, 3 CLIPPED ones. NONE if one can't be, or another what.");
        for (int what = 0; what <= 3; what++) {
            range("burst", NONE, row(0, 2, 5, what), 0, 0, 1);
            range("burst", NONE, row(0, 2, 5, what), 1, 0, 5);
            range("burst", NONE, row(0, 2, 5, what), 2, 2, 9);
            range("burst", NONE, row(0, 2, 5, what), 3, 0, 3);
        }
        Due.says("What a BURST is by the RULES; NONE if one can't be.");
        range("kind", NONE, row(0, 2, 5, 7, 3), 0, 0, 1);
        range("kind", NONE, row(0, 2, 5, 7, 3), 1, 0, 5);
        range("kind", NONE, row(0, 2, 5, 7, 3), 2, 2, 9);
        range("kind", NONE, row(0, 2, 5, 7, 3), 3, 0, 23);
        range("kind", NONE, row(0, 2, 5, 7, 3), 4, 0, 6);
    }

    private static void rules() throws ReflectiveOperationException {
        Due.says("true; false, changing nothing, if it has not so many, or n is below 0.");
        range("end", 0, row(7), 0, 0, Seen.TAPE);
        Due.says("what 0 the FAULT (0 without one), 1 its place (NONE). NONE for another what.");
        range("fault", NONE, row(0), 0, 0, 1);
        Due.says("Twenty bytes come behind the TAPE, of each number the highest first: how many it has.");
        for (int k = 0; k < 5; k++) {
            int[] bytes = row(1, 2, 3, 4, 5);
            bytes[k] = Integer.MIN_VALUE;
            taken("feed", NONE, bytes);
            bytes[k] = Integer.MAX_VALUE;
            taken("feed", NONE, bytes);
            bytes[k] = -1;
            taken("feed", NONE, bytes);
        }
    }

    private static void quakes() throws ReflectiveOperationException {
        Due.says("WAVES: true; false, and nothing is done, if one can't be.");
        range("waves", 0, row(8, 15), 0, 1, 14);
        range("waves", 0, row(8, 15), 1, 9, 99);
        range("waves", 0, row(5, 99), 0, 1, 98);
        range("waves", 0, row(1, 5), 1, 2, 99);
        Due.says("A QUAKE: its number; NONE if there are 16.");
        taken("quake", NONE, row());
        Due.says("P of a READING (0 .. 9999999, from not above to; anew: S, BEAT, PEAK are not read, 0): true; false, and");
        range("read", 0, row(0, 0, 1000, 2000), 0, 0, 1);
        range("read", 0, row(0, 0, 1000, 2000), 1, 0, 1);
        range("read", 0, row(0, 0, 1000, 2000), 2, 0, 2000);
        range("read", 0, row(0, 0, 1000, 2000), 3, 1000, 9999999);
        range("read", 0, row(0, 0, 0, 9999999), 2, 0, 9999999);
        range("read", 0, row(0, 0, 0, 0), 3, 0, 9999999);
        Due.says("S of a READING (likewise; of one whose P was read; from NONE: not read): true; false, and nothing is done");
        range("second", 0, row(0, 0, 1000, 2000), 0, 0, 1);
        range("second", 0, row(0, 0, 1000, 2000), 1, 0, 1);
        range("second", 0, row(0, 0, 1000, 2000), 2, NONE, 2000);
        range("second", 0, row(0, 0, 1000, 2000), 3, 1000, 9999999);
        range("second", 0, row(0, 0, 0, 9999999), 2, NONE, 9999999);
        range("second", 0, row(0, 0, 0, 0), 3, 0, 9999999);
        Due.says("BEAT and PEAK of a READING: true; false, and nothing is done, if one can't be.");
        range("beat", 0, row(0, 0, 0, 7), 0, 0, 1);
        range("beat", 0, row(0, 0, 0, 7), 1, 0, 1);
        range("beat", 0, row(0, 0, 0, 7), 2, -1, 1);
        range("beat", 0, row(0, 0, 0, 7), 3, 0, 999999);
        fitting();
    }

    private static void fitting() throws ReflectiveOperationException {
        Due.says("NONE if one can't be, there is none such, or another what.");
        int found = Seen.object().fits(0, 1, 0);
        Due.yes("some cells fit, not all", found > 0 && found < 1600);
        for (int what = 0; what <= 1; what++) {
            range("fits", NONE, row(0, 1, what), 0, 0, 1);
            range("fits", NONE, row(0, 1, what), 1, 1, 63);
        }
        range("fits", NONE, row(0, 1, 0), 2, 0, found);
        range("fits", NONE, row(0, 60, 0), 2, 0, 1600);
        Due.says("Whether a CELL FITS (of all its READINGS): 1 or 0; NONE if one can't be.");
        range("fit", NONE, row(0, 15, 10), 0, 0, 1);
        range("fit", NONE, row(0, 15, 10), 1, 0, 39);
        range("fit", NONE, row(0, 15, 10), 2, 0, 39);
        Due.says("The CELLAR that is WRONG ALONE; NONE if there is none, or one can't be.");
        refused("wrong", NONE, row(-1));
        refused("wrong", NONE, row(2));
        refused("wrong", NONE, row(Integer.MIN_VALUE));
        refused("wrong", NONE, row(Integer.MAX_VALUE));
        Due.says("The SLIDES that AGREE at a CELL, as a set; NONE if one can't be.");
        range("slides", NONE, row(0, 15, 10), 0, 0, 1);
        range("slides", NONE, row(0, 15, 10), 1, 0, 39);
        range("slides", NONE, row(0, 15, 10), 2, 0, 39);
    }

    private static void sizes() throws ReflectiveOperationException {
        Due.says("LEVEL of a number; NONE below 0.");
        range("level", NONE, row(5), 0, 0, Integer.MAX_VALUE);
        Due.says("HABIT: true; false if one can't be.");
        range("habit", 0, row(0, 7), 0, 0, 1);
        range("habit", 0, row(0, 7), 1, -50, 50);
        Due.says("or of its READING of a CELLAR; UNKNOWN if there is none, or one can't be.");
        for (int c = NONE; c <= 1; c++) {
            range("size", UNKNOWN, row(0, 12, 10, c), 0, 0, 1);
            range("size", UNKNOWN, row(0, 12, 10, c), 1, 0, 39);
            range("size", UNKNOWN, row(0, 12, 10, c), 2, 0, 39);
        }
        range("size", UNKNOWN, row(0, 12, 10, 0), 3, NONE, 1);
        Due.says("The PLACE of a QUAKE: true; false if one can't be.");
        range("place", 0, row(0, 3, 4), 0, 0, 1);
        range("place", 0, row(0, 3, 4), 1, 0, 39);
        range("place", 0, row(0, 3, 4), 2, 0, 39);
        Due.says("OWN HABIT of a CELLAR; UNKNOWN if there is none, or one can't be.");
        range("own", UNKNOWN, row(0), 0, 0, 1);
        Due.says("NONE - 1 if one can't be (not above the last one, above 9999999), or it has eight.");
        range("pick", NONE - 1, row(300), 0, 241, 9999999, NONE, NONE);
        Due.says("PARTED with waits of at most w (0 .. 9999): in how many ways; 0 for an odd number of times. NONE if");
        range("parted", NONE, row(70), 0, 0, 9999);
        Due.says("how many ways; NONE if there are not four times, or one can't be.");
        range("couples", NONE, row(5, 10, 3), 0, 0, 55);
        range("couples", NONE, row(5, 10, 3), 1, 0, 55);
        range("couples", NONE, row(5, 10, 3), 2, 0, 999);
    }

    private static void catalogues() throws ReflectiveOperationException {
        Due.says("An ENTRY: its number; NONE if one can't be, or there are 100.");
        for (int k = 0; k <= 1; k++) {
            range("entry", NONE, row(k, 7, 8, 9, 10), 0, 0, 1);
            range("entry", NONE, row(k, 7, 8, 9, 10), 1, 0, 9999);
            range("entry", NONE, row(k, 7, 8, 9, 10), 2, 0, 23);
            range("entry", NONE, row(k, 7, 8, 9, 10), 3, 0, 1599);
            range("entry", NONE, row(k, 7, 8, 9, 10), 4, 0, 999);
        }
        Due.says("JOINED; NONE if one can't be (h 0 .. 999, r 0 .. 55, z 0 .. 999).");
        range("joined", NONE, row(2, 1, 10), 0, 0, 999);
        range("joined", NONE, row(2, 1, 10), 1, 0, 55);
        range("joined", NONE, row(2, 1, 10), 2, 0, 999);
        Due.says("NONE if there is none (for 1), one can't be, or another what.");
        range("quarries", NONE, row(2, 3, 0), 0, 0, 55);
        range("quarries", NONE, row(2, 3, 0), 1, 1, 100);
        range("quarries", NONE, row(2, 3, 0), 2, 0, 1);
        range("quarries", NONE, row(2, 3, 1), 0, 1, 55);
        range("quarries", NONE, row(2, 3, 1), 1, 1, 3);
        Due.says("FELT: how many; NONE if one can't be, or there are 100.");
        range("felt", NONE, row(5, 1, 10), 0, 0, 1599);
        range("felt", NONE, row(5, 1, 10), 1, 0, 2);
        range("felt", NONE, row(5, 1, 10), 2, 0, 999);
        Due.says("What 0 OFF, 1 LEAN, 10 + i FORETOLD of FELT i. UNKNOWN if there is none such, or another what.");
        range("shaken", UNKNOWN, row(0), 0, 0, 1, 10, 11);
        Due.says("4 times in the row, 5 FELT. NONE for another what.");
        range("look", NONE, row(0), 0, 0, 5);
    }

    private static int[] row(int... values) {
        return values;
    }

    /** Number k of the call may be from ends[0] to ends[1], or from ends[2] to ends[3]; nothing else. */
    private static void range(String name, long refusal, int[] arguments, int k, int... ends)
            throws ReflectiveOperationException {
        List<Long> beyond = new ArrayList<>(List.of((long) Integer.MIN_VALUE, (long) Integer.MAX_VALUE));
        for (int i = 0; i < ends.length; i += 2) {
            beyond.add(ends[i] - 1L);
            beyond.add(ends[i + 1] + 1L);
            taken(name, refusal, with(arguments, k, ends[i]));
            taken(name, refusal, with(arguments, k, ends[i + 1]));
        }
        for (long value : beyond) {
            boolean isInt = value >= Integer.MIN_VALUE && value <= Integer.MAX_VALUE;
            if (isInt && !isWithin(value, ends)) {
                refused(name, refusal, with(arguments, k, (int) value));
            }
        }
    }

    private static boolean isWithin(long value, int[] ends) {
        boolean within = false;
        for (int i = 0; i < ends.length; i += 2) {
            within |= value >= ends[i] && value <= ends[i + 1];
        }
        return within;
    }

    private static int[] with(int[] arguments, int k, int value) {
        int[] changed = arguments.clone();
        changed[k] = value;
        return changed;
    }

    private static void taken(String name, long refusal, int[] arguments) throws ReflectiveOperationException {
        CellarPen p = Seen.object();
        long answer = call(p, name, arguments);
        Due.yes(told(name, arguments) + " is refused (" + answer + "); taken", answer != refusal);
        if (ASKING.contains(name)) {
            Due.yes(told(name, arguments) + " asks alone", Seen.all(p).equals(UNTOUCHED));
        }
    }

    private static void refused(String name, long refusal, int[] arguments) throws ReflectiveOperationException {
        CellarPen p = Seen.object();
        Due.is(told(name, arguments), call(p, name, arguments), refusal);
        Due.yes(told(name, arguments) + " does nothing", Seen.all(p).equals(UNTOUCHED));
    }

    private static String told(String name, int[] arguments) {
        return name + Arrays.toString(arguments);
    }

    private static long call(CellarPen p, String name, int[] arguments) throws ReflectiveOperationException {
        TRIED.add(name);
        Class<?>[] types = new Class<?>[arguments.length];
        Object[] values = new Object[arguments.length];
        for (int i = 0; i < arguments.length; i++) {
            types[i] = int.class;
            values[i] = arguments[i];
        }
        try {
            Object answer = CellarPen.class.getMethod(name, types).invoke(p, values);
            return answer instanceof Boolean yes ? (yes ? 1 : 0) : ((Number) answer).longValue();
        } catch (InvocationTargetException thrown) {
            Due.yes(told(name, arguments) + " threw " + thrown.getCause(), false);
            return Long.MIN_VALUE;
        }
    }

    /** What the tests above rest on: that a change would be seen. */
    private static void everyChangeIsSeen() throws ReflectiveOperationException {
        Due.says("");
        Object[][] changes = {
            {"cellar", row(3, 4)}, {"pen", row(0, 9, 16, 99)}, {"pen", row(0, 8, 17, 99)}, {"pen", row(0, 8, 16, 30)},
            {"ground", row(1, 0)}, {"write", row(0, 10, 0)}, {"write", row(1, 4, 0)}, {"write", row(1, 4, UNKNOWN)},
            {"paper", row(1)}, {"mark", row(1, 6, 8)}, {"clock", row(0, 101, 590, 610)},
            {"clock", row(0, 100, 591, 610)}, {"clock", row(0, 100, 590, 611)}, {"feed", row(0, 0, 0, 0, 0)},
            {"end", row(19)}, {"rules", row()}, {"waves", row(8, 16)}, {"waves", row(9, 17)}, {"quake", row()},
            {"read", row(1, 1, 1045, 1090)}, {"second", row(1, 0, 1060, 1080)}, {"second", row(1, 0, 1040, 1060)},
            {"second", row(1, 0, NONE, 1079)}, {"beat", row(1, 1, 0, 530)}, {"beat", row(1, 1, -1, 600)},
            {"habit", row(0, 4)}, {"place", row(0, 20, 10)}, {"place", row(0, 12, 39)}, {"pick", row(241)},
            {"pick", row(NONE)}, {"entry", row(0, 7, 9, 400, 90)}, {"entry", row(1, 7, 9, 400, 90)},
            {"felt", row(405, 0, 60)}};
        for (Object[] change : changes) {
            CellarPen p = Seen.object();
            call(p, (String) change[0], (int[]) change[1]);
            Due.no(told((String) change[0], (int[]) change[1]) + " is not seen", Seen.all(p).equals(UNTOUCHED));
        }
    }

    private static void everyCallIsTried() {
        for (Method method : CellarPen.class.getDeclaredMethods()) {
            boolean isFace = Modifier.isPublic(method.getModifiers()) && !method.getName().equals("rules");
            Due.yes(method.getName() + " is tried", !isFace || TRIED.contains(method.getName()));
        }
    }
}
