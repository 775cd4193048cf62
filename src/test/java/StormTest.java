import java.lang.reflect.InvocationTargetException;
import java.lang.reflect.Method;
import java.lang.reflect.Modifier;
import java.util.Arrays;
import java.util.Comparator;
import java.util.Random;

/** Runs of calls with any arguments at all: none throws, and the same calls give the same answers. */
public final class StormTest {
    private static final int[] EDGES = {
        0, 1, -1, 2, -2, 5, 6, 7, 8, 15, 16, 17, 39, 40, 55, 56, 63, 64, 99, 100, 101, 199, 200, 201, 599, 600, 601, 999,
        1000, 1001, 1002, 1003, 1004, 1005, 1006, 1599, 1600, 1601, 9999, 10000, 999999, 1000000, 9999999, 10000000,
        Integer.MAX_VALUE, Integer.MIN_VALUE, Integer.MAX_VALUE - 1, -1000000000, 1000000000, -50, 50, 500, 600, 700};
    private static final String WORDS = " truck when quake blast hour day peak 1 = 1 ; not ( ) and or + - * / 0 < > 9 \n";

    public static void main(String[] args) throws IllegalAccessException {
        Method[] calls = calls();
        for (int seed = 0; seed < 300; seed++) {
            long once = storm(calls, seed, 500);
            long again = storm(calls, seed, 500);
            Due.is("the same calls, the same answers", once, again);
        }
        // behind its 512th call an object may answer anything, but it must not throw
        for (int seed = 300; seed < 305; seed++) {
            storm(calls, seed, 10000);
        }
        Due.finish("StormTest");
    }

    private static Method[] calls() {
        return Arrays.stream(CellarPen.class.getDeclaredMethods())
            .filter(method -> Modifier.isPublic(method.getModifiers()))
            .sorted(Comparator.comparing(Method::getName))
            .toArray(Method[]::new);
    }

    private static int argument(Random random) {
        int way = random.nextInt(10);
        if (way < 6) {
            return random.nextInt(8) - 1;
        }
        if (way < 9) {
            return EDGES[random.nextInt(EDGES.length)];
        }
        return random.nextInt();
    }

    private static int letters(Random random) {
        int number = 0;
        int from = random.nextInt(WORDS.length() - 4);
        for (int i = 0; i < 4; i++) {
            number = number << 8 | WORDS.charAt(from + i);
        }
        return number;
    }

    private static long storm(Method[] calls, int seed, int number) throws IllegalAccessException {
        Random random = new Random(seed);
        CellarPen pen = new CellarPen();
        for (int i = 0; i < 3; i++) {
            pen.cellar(random.nextInt(40), random.nextInt(40));
            pen.quake();
        }
        long sum = 0;
        for (int i = 0; i < number; i++) {
            Method call = calls[random.nextInt(calls.length)];
            Object[] arguments = new Object[call.getParameterCount()];
            for (int k = 0; k < arguments.length; k++) {
                arguments[k] = call.getName().equals("feed") ? letters(random) : argument(random);
            }
            try {
                sum = 31 * sum + call.invoke(pen, arguments).hashCode();
            } catch (InvocationTargetException thrown) {
                Due.yes(call.getName() + Arrays.toString(arguments) + " threw " + thrown.getCause(), false);
                return 0;
            }
        }
        return sum;
    }
}
