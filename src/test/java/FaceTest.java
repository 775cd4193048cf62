import java.io.IOException;
import java.lang.reflect.Constructor;
import java.lang.reflect.Field;
import java.lang.reflect.Method;
import java.lang.reflect.Modifier;
import java.nio.file.Files;
import java.nio.file.Path;
import java.util.ArrayList;
import java.util.List;
import java.util.Set;
import java.util.TreeSet;

/** The document's public face, and those rules of LANGUAGE.md that can be seen from outside. */
public final class FaceTest {
    private static final String[] FACE = {
        "int cellar 2", "boolean pen 4", "int ground 2", "boolean write 3", "int paper 1", "int at 2", "int back 2",
        "int swing 4", "boolean mark 3", "boolean clock 4", "long time 3", "int first 2", "int burst 4", "int kind 5",
        "int feed 5", "boolean end 1", "int rules 0", "int fault 1", "boolean waves 2", "int quake 0", "boolean read 4",
        "boolean second 4", "boolean beat 4", "int fits 3", "int fit 3", "int wrong 1", "int slides 3", "int level 1",
        "boolean habit 2", "int size 4", "boolean place 3", "int own 1", "int pick 1", "int parted 1", "int couples 3",
        "int entry 5", "int joined 3", "int quarries 3", "int felt 3", "int shaken 1", "int look 1"};
    private static final String[] FORBIDDEN = {
        "throw", "throws", "try", "catch", "finally", "synchronized", "assert", "import", "package", "volatile",
        "transient", "native", "strictfp", "protected", "double", "float", "System", "Thread", "Object", "Exception",
        "hashCode", "toString", "var", "lambda"};

    public static void main(String[] args) throws IOException {
        constants();
        publicMethods();
        documentFace(Files.readString(Path.of("src/main/java/CellarPen.java")));
        otherMembers();
        insideClasses();
        source(Files.readString(Path.of("src/main/java/CellarPen.java")));
        Due.finish("FaceTest");
    }

    private static void constants() {
        Due.says("The constants: `NONE = -1`: None.");
        Due.is("NONE", CellarPen.NONE, -1);
        Due.says("`UNKNOWN = -1000000000`: Unknown.");
        Due.is("UNKNOWN", CellarPen.UNKNOWN, -1000000000);
        Due.says("");
    }

    private static String signature(Method method) {
        for (Class<?> type : method.getParameterTypes()) {
            Due.yes(method + " takes ints alone", type == int.class);
        }
        return method.getReturnType() + " " + method.getName() + " " + method.getParameterCount();
    }

    private static void publicMethods() {
        Set<String> due = new TreeSet<>(List.of(FACE));
        Set<String> found = new TreeSet<>();
        for (Method method : CellarPen.class.getDeclaredMethods()) {
            if (Modifier.isPublic(method.getModifiers())) {
                found.add(signature(method));
            }
        }
        Due.yes("the face is " + due + ", found " + found, due.equals(found));
        Due.is("methods", FACE.length, 41);
    }

    /** Every line of "The public face" stands in the source as the document writes it, names of numbers too. */
    private static void documentFace(String source) throws IOException {
        Path document = Path.of("../shared/DOC.md");
        if (!Files.isReadable(document)) {
            return;
        }
        String text = Files.readString(document);
        String begin = "```java\n";
        int from = text.indexOf(begin);
        int to = text.indexOf("```", from + begin.length());
        Due.yes("the document shows a face", from >= 0 && to > from);
        int lines = 0;
        for (String line : text.substring(from + begin.length(), to).split("\n")) {
            boolean isHead = line.endsWith(");");
            String due = isHead ? line.substring(0, line.length() - 1) + " {" : line;
            Due.yes("the face has " + line, source.contains(due + "\n") || line.isBlank());
            lines += isHead ? 1 : 0;
        }
        Due.is("methods and the constructor", lines, FACE.length + 1);
    }

    private static void otherMembers() {
        int face = CellarPen.class.getModifiers();
        Due.yes("the class is public and final", Modifier.isPublic(face) && Modifier.isFinal(face));
        for (Constructor<?> made : CellarPen.class.getDeclaredConstructors()) {
            Due.yes("one public constructor", Modifier.isPublic(made.getModifiers()) && made.getParameterCount() == 0);
        }
        for (Method method : CellarPen.class.getDeclaredMethods()) {
            int modifiers = method.getModifiers();
            Due.yes(method + " is public or private", Modifier.isPublic(modifiers) || Modifier.isPrivate(modifiers));
        }
        for (Field field : CellarPen.class.getDeclaredFields()) {
            boolean constant = field.getName().equals("NONE") || field.getName().equals("UNKNOWN");
            Due.yes(field + " is as it should be", constant ? Modifier.isPublic(field.getModifiers())
                : Modifier.isPrivate(field.getModifiers()));
        }
    }

    private static void insideClasses() {
        Set<String> names = new TreeSet<>();
        for (String line : FACE) {
            names.add(line.split(" ")[1]);
        }
        List<Class<?>> all = new ArrayList<>(List.of(CellarPen.class.getDeclaredClasses()));
        Due.yes("twelve classes at most", all.size() + 1 <= 12);
        all.add(CellarPen.class);
        for (Class<?> type : all) {
            Due.yes(type + " is static", type == CellarPen.class || Modifier.isStatic(type.getModifiers()));
            int fields = 0;
            for (Field field : type.getDeclaredFields()) {
                boolean isStatic = Modifier.isStatic(field.getModifiers());
                fields += isStatic ? 0 : 1;
                boolean plain = field.getType() == int.class || field.getType() == String.class;
                Due.yes(field + " is a plain constant", !isStatic || (plain && Modifier.isFinal(field.getModifiers())));
            }
            Due.yes(type + " has twenty fields at most", fields <= 20);
            for (Method method : type.getDeclaredMethods()) {
                boolean bears = names.contains(method.getName()) && !Modifier.isPublic(method.getModifiers());
                Due.no(method + " bears a name of the face", bears);
                Due.yes(method + " takes seven at most", method.getParameterCount() <= 7);
            }
        }
    }

    private static void source(String text) {
        String bare = text.replaceAll("(?s)/\\*.*?\\*/", " ").replaceAll("//[^\n]*", " ")
            .replaceAll("\"[^\"]*\"", "\"\"").replaceAll("'[^']*'", "' '");
        for (String word : FORBIDDEN) {
            Due.no("the word " + word, bare.matches("(?s).*\\b" + word + "\\b.*"));
        }
        for (String sign : new String[] {"->", "::", "@"}) {
            Due.no("the sign " + sign, bare.contains(sign));
        }
        for (int i = 0; i < text.length(); i++) {
            Due.yes("plain signs alone", text.charAt(i) < 127);
        }
        methodLengths(text);
    }

    /** Methods begin and end with a line of their own, by four or eight blanks. */
    private static void methodLengths(String text) {
        String[] lines = text.split("\n");
        for (String indent : new String[] {"    ", "        "}) {
            int begun = -1;
            for (int i = 0; i < lines.length; i++) {
                boolean head = lines[i].matches(indent + "[a-zA-Z].*\\) \\{");
                if (head) {
                    begun = i;
                } else if (lines[i].equals(indent + "}") && begun >= 0) {
                    Due.yes("sixty lines at most: " + lines[begun], i - begun < 60);
                    begun = -1;
                }
            }
        }
    }
}
