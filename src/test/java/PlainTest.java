import java.lang.reflect.Method;
import java.lang.reflect.Modifier;
import java.util.ArrayList;
import java.util.Arrays;
import java.util.LinkedHashMap;
import java.util.List;
import java.util.Map;
import java.util.Random;
import java.util.Set;
import java.util.TreeSet;

/**
 * Long runs of calls by chance on one object, each answer held against that of PlainPen: what one call changes must be
 * seen by every later one. A run keeps to one part of the document (or to all), so that limits are reached.
 */
public final class PlainTest {
    // a TEXT makes up to 35 calls more; an object is good for 512
    private static final int CALLS = 475;
    private static final int RUNS = 20;
    // what comes seldom, in every part
    private static final String[] SELDOM = {"cellar x x", "quake", "look look", "pen c damp damp limit", "habit c habit",
        "paper c", "waves slow slow", "end few", "feed any any any any any", "rules", "place q x x"};
    // per part: each call with the kinds of its numbers; a call that is named twice comes twice as often
    private static final String[][] PARTS = {
        {"ground c push", "ground c push", "ground c push", "write c sample told", "at c at", "back c sample",
            "swing c from to few"},
        {"mark c pressed minute", "write c next told", "write c next told", "clock c t minutes minutes", "time c early few",
            "first c far", "burst c from to few", "kind c from to hour day", "text", "fault few"},
        {"read q c p p", "second q c s s", "beat q c beat peak", "fits q set few", "fits q set cell", "fit q x x", "wrong q",
            "slides q x x"},
        {"read q c p p", "beat q c beat peak", "beat q c beat peak", "level any", "habit c habit", "size q x x c",
            "size q x x none", "place q x x", "own c", "pick pick", "pick pick", "parted wait", "couples near near wait"},
        {"entry k date hour cell size", "entry k date hour cell size", "joined wait near size", "quarries near few k",
            "felt cell entry size", "shaken shaken"}};

    private static final Map<String, Method> OF_PEN = methods(CellarPen.class);
    private static final Map<String, Method> OF_PLAIN = methods(PlainPen.class);
    private static final Set<String> TRIED = new TreeSet<>();
    private static int differing;

    private final Random random;
    private final RuleTexts texts;
    private final CellarPen pen = new CellarPen();
    private final PlainPen plain = new PlainPen();
    private final StringBuilder story = new StringBuilder();
    private int lastFrom;
    private int lastPick;
    private int cellarTold;
    private int calls;

    private PlainTest(long seed) {
        random = new Random(seed);
        texts = new RuleTexts(random);
    }

    public static void main(String[] args) throws ReflectiveOperationException {
        int runs = args.length > 0 ? Integer.parseInt(args[0]) : RUNS;
        for (int run = 0; run < runs && differing == 0; run++) {
            for (int part = 0; part <= PARTS.length; part++) {
                new PlainTest(1000L * run + part).run(part);
            }
        }
        Due.yes("every call of the face is tried, not only " + TRIED, TRIED.equals(OF_PEN.keySet()));
        Due.finish("PlainTest");
    }

    private static Map<String, Method> methods(Class<?> type) {
        Map<String, Method> found = new LinkedHashMap<>();
        for (Method method : type.getDeclaredMethods()) {
            boolean takesInts = Arrays.stream(method.getParameterTypes()).allMatch(one -> one == int.class);
            boolean isOne = type == CellarPen.class ? Modifier.isPublic(method.getModifiers())
                : takesInts && !Modifier.isPrivate(method.getModifiers());
            if (isOne) {
                found.put(method.getName(), method);
            }
        }
        return found;
    }

    /** Part PARTS.length is all of them together. */
    private void run(int part) throws ReflectiveOperationException {
        List<String> often = new ArrayList<>();
        for (int i = 0; i < PARTS.length; i++) {
            if (i == part || part == PARTS.length) {
                often.addAll(List.of(PARTS[i]));
            }
        }
        for (int i = random.nextInt(6); i >= 0; i--) {
            answer("cellar", random.nextInt(40), random.nextInt(40));
        }
        for (int i = random.nextInt(3); i >= 0; i--) {
            answer("quake");
        }
        while (calls < CALLS && differing == 0) {
            String call = random.nextInt(30) == 0 ? SELDOM[random.nextInt(SELDOM.length)]
                : often.get(random.nextInt(often.size()));
            String[] words = call.split(" ");
            if (call.equals("text")) {
                text(texts.next());
                continue;
            }
            int[] numbers = new int[words.length - 1];
            for (int i = 0; i < numbers.length; i++) {
                numbers[i] = random.nextInt(60) == 0 ? any() : number(words[i + 1]);
            }
            answer(words[0], numbers);
        }
    }

    private void text(String text) throws ReflectiveOperationException {
        answer("end", 0);
        int[] bytes = new int[(text.length() + 19) / 20 * 20];
        for (int i = 0; i < text.length(); i++) {
            bytes[i] = text.charAt(i);
        }
        for (int i = 0; i < bytes.length; i += 20) {
            int[] five = new int[5];
            for (int k = 0; k < 20; k++) {
                five[k / 4] = five[k / 4] << 8 | bytes[i + k];
            }
            answer("feed", five);
        }
        answer("end", text.length());
        answer("rules");
        answer("fault", 0);
        answer("fault", 1);
    }

    private void answer(String name, int... numbers) throws ReflectiveOperationException {
        calls++;
        TRIED.add(name);
        Object[] row = Arrays.stream(numbers).boxed().toArray();
        Object due = OF_PLAIN.get(name).invoke(plain, row);
        Object got = OF_PEN.get(name).invoke(pen, row);
        story.append(name).append(Arrays.toString(numbers)).append(" = ").append(due).append("; ");
        if (!got.equals(due)) {
            differing++;
            System.out.println(story);
        }
        Due.yes(name + Arrays.toString(numbers) + " answered " + got + ", due is " + due, got.equals(due));
    }

    private int any() {
        int[] odd = {-1, 0, 1, -2, 6, 16, 40, 56, 64, 200, 1000, 1600, 10000, CellarPen.UNKNOWN, Integer.MIN_VALUE,
            Integer.MAX_VALUE};
        return random.nextInt(8) == 0 ? random.nextInt() : odd[random.nextInt(odd.length)];
    }

    private int below(int bound) {
        return random.nextInt(Math.max(1, bound));
    }

    private int number(String kind) {
        switch (kind) {
            case "c":
                cellarTold = random.nextInt(3) > 0 ? cellarTold : below(plain.look(0));
                return cellarTold;
            case "q":
                return below(plain.look(1));
            case "x":
                return below(40);
            case "set":
                return 1 + below(63);
            case "cell":
                return below(3) == 0 ? below(20) : below(1600);
            case "k":
                return below(2);
            case "few":
                return below(4);
            case "none":
                return CellarPen.NONE;
            case "any":
                return random.nextBoolean() ? random.nextInt() : below(5000);
            case "look":
                return below(7);
            default:
                return cellarNumber(kind);
        }
    }

    private int cellarNumber(String kind) {
        int samples = Math.max(0, plain.at(cellarTold, 1000));
        switch (kind) {
            case "damp":
                return below(65);
            case "limit":
                return below(4) == 0 ? 999 : 10 + below(300);
            case "push":
                return below(3) > 0 ? 0 : below(20) == 0 ? below(19999) - 9999 : below(121) - 60;
            case "sample":
                return below(samples + 2);
            case "next":
                return below(6) == 0 ? below(samples + 2) : samples;
            case "early":
                return below(2 * Math.max(0, plain.at(cellarTold, 1005)) + 2);
            case "from":
                lastFrom = below(samples);
                return lastFrom;
            case "to":
                return lastFrom + below(8);
            case "told":
                return below(20) == 0 ? CellarPen.UNKNOWN : below(10) == 0 ? below(1999) - 999 : below(41) - 20;
            case "at":
                return random.nextBoolean() ? below(210) : 999 + below(8);
            default:
                return clockNumber(kind);
        }
    }

    private int clockNumber(String kind) {
        switch (kind) {
            case "pressed":
                return 2 * Math.max(0, plain.at(cellarTold, 1005)) + below(3);
            case "minute":
                return 5 * Math.max(0, plain.at(cellarTold, 1005)) + below(6);
            case "t":
                return below(1000000);
            case "minutes":
                return 500 + below(201);
            case "far":
                return below(60);
            case "habit":
                return below(103) - 51;
            default:
                return quakeNumber(kind);
        }
    }

    private int quakeNumber(String kind) {
        switch (kind) {
            case "slow":
                return below(3) == 0 ? below(101) : 9 + below(12);
            case "p":
                lastFrom = below(20) == 0 ? below(10000001) : lastFrom > 1000 && random.nextBoolean()
                    ? lastFrom + below(90) : 1000 + below(150);
                return lastFrom;
            case "s":
                lastFrom = below(9) == 0 ? -1 : Math.max(1000, lastFrom) + below(90);
                return lastFrom;
            case "beat":
                return below(3) - 1;
            case "peak":
                return below(4) == 0 ? 0 : below(4) == 0 ? below(1000001) : below(900);
            case "pick":
                lastPick = below(15) == 0 ? -1 : Math.max(0, lastPick) + below(60);
                return lastPick;
            case "wait":
                return below(300);
            default:
                return entryNumber(kind);
        }
    }

    private int entryNumber(String kind) {
        switch (kind) {
            case "hour":
                return below(3) == 0 ? below(24) : 8 + below(10);
            case "day":
                return below(7);
            case "date":
                return below(4) == 0 ? below(10001) : below(9);
            case "near":
                return below(3) == 0 ? below(56) : below(12);
            case "size":
                return below(300);
            case "entry":
                return below(1 + plain.look(3) / 2);
            default:
                return below(2) == 0 ? below(2) : 10 + below(100);
        }
    }
}
