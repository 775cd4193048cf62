import java.io.IOException;
import java.lang.reflect.Method;
import java.lang.reflect.Modifier;
import java.nio.file.Files;
import java.nio.file.Path;
import java.util.Arrays;
import java.util.Set;
import java.util.TreeSet;
import java.util.regex.Matcher;
import java.util.regex.Pattern;

/** README.md shows every call of the face with the answer it gives, and names every test and what runs them. */
public final class ReadmeTest {
    // a call and, behind it, its answer: "pen.pick(150);  // 2: how many it has"
    private static final Pattern SHOWN = Pattern.compile("pen\\.(\\w+)\\(([^)]*)\\);\\s+// (-?\\d+|true|false)\\b.*");
    private static final String ANEW = "CellarPen pen = new CellarPen();";

    public static void main(String[] args) throws IOException, ReflectiveOperationException {
        String readme = Files.readString(Path.of("README.md"));
        Set<String> shown = new TreeSet<>();
        CellarPen pen = new CellarPen();
        for (String line : readme.split("\n")) {
            Matcher call = SHOWN.matcher(line);
            if (line.startsWith(ANEW)) {
                pen = new CellarPen();
            } else if (call.matches()) {
                shown.add(call.group(1));
                Due.yes("as README.md shows it: " + line, answer(pen, call).equals(call.group(3)));
            } else {
                Due.no("a call without its answer: " + line, line.startsWith("pen."));
            }
        }
        Set<String> face = new TreeSet<>();
        for (Method method : CellarPen.class.getDeclaredMethods()) {
            if (Modifier.isPublic(method.getModifiers())) {
                face.add(method.getName());
            }
        }
        Due.yes("README.md shows " + face + ", found " + shown, face.equals(shown));
        tests(readme);
        Due.finish("ReadmeTest");
    }

    private static String answer(CellarPen pen, Matcher call) throws ReflectiveOperationException {
        Object[] numbers = call.group(2).isEmpty() ? new Object[0]
            : Arrays.stream(call.group(2).split(", ")).map(ReadmeTest::number).toArray();
        Class<?>[] types = new Class<?>[numbers.length];
        Arrays.fill(types, int.class);
        String got = CellarPen.class.getMethod(call.group(1), types).invoke(pen, numbers).toString();
        if (!got.equals(call.group(3))) {
            System.out.println(call.group() + " answered " + got);
        }
        return got;
    }

    private static Object number(String text) {
        return text.equals("CellarPen.NONE") ? CellarPen.NONE
            : text.equals("CellarPen.UNKNOWN") ? CellarPen.UNKNOWN : Integer.decode(text);
    }

    private static void tests(String readme) throws IOException {
        Due.yes("README.md says how to run the tests", readme.contains("`.ci/run`"));
        try (var files = Files.list(Path.of("src/test/java"))) {
            for (Path file : files.toList()) {
                String name = file.getFileName().toString().replace(".java", "");
                Due.yes("README.md names " + name, readme.matches("(?s).*\\b" + name + "\\b.*"));
            }
        }
    }
}
