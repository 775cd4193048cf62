import java.io.IOException;
import java.io.UncheckedIOException;
import java.nio.charset.StandardCharsets;
import java.nio.file.Files;
import java.nio.file.Path;

/** What the tests share: counts answers that are not as due, and feeds TEXTS. */
final class Due {
    private static final Path DOCUMENT = Path.of("../shared/DOC.md");
    private static int asked = 0;
    private static int wrong = 0;
    private static String document = "";
    private static String sentence = "";

    private Due() {
    }

    static void is(String call, long got, long want) {
        asked++;
        if (got != want) {
            wrong++;
            System.out.println(sentence + call + " answered " + got + ", due is " + want);
        }
    }

    /** The document's words that the next answers are asked for (empty: none); words that it does not hold are a fault. */
    static void says(String words) {
        sentence = "";
        yes("the document says: " + words, document().isEmpty() || document().contains(words));
        sentence = words.isEmpty() ? "" : "[" + words + "] ";
    }

    private static String document() {
        if (document.isEmpty() && Files.isReadable(DOCUMENT)) {
            try {
                document = Files.readString(DOCUMENT);
            } catch (IOException unread) {
                throw new UncheckedIOException(unread);
            }
        }
        return document;
    }

    static void yes(String call, boolean got) {
        is(call, got ? 1 : 0, 1);
    }

    static void no(String call, boolean got) {
        is(call, got ? 1 : 0, 0);
    }

    static void finish(String name) {
        System.out.println(name + ": " + asked + " answers asked, " + wrong + " not as due");
        if (wrong != 0) {
            System.exit(1);
        }
    }

    /** Puts a TEXT on the TAPE, which must be empty. */
    static void feed(CellarPen pen, String text) {
        byte[] bytes = text.getBytes(StandardCharsets.ISO_8859_1);
        for (int i = 0; i < bytes.length; i += 20) {
            pen.feed(four(bytes, i), four(bytes, i + 4), four(bytes, i + 8), four(bytes, i + 12), four(bytes, i + 16));
        }
        pen.end(bytes.length);
    }

    static int rules(CellarPen pen, String text) {
        feed(pen, text);
        return pen.rules();
    }

    private static int four(byte[] bytes, int from) {
        int number = 0;
        for (int i = from; i < from + 4; i++) {
            number = number << 8 | (i < bytes.length ? bytes[i] & 255 : 32);
        }
        return number;
    }

    /** Tells SAMPLES from the PAPER's beginning on. */
    static void samples(CellarPen pen, int c, int... values) {
        pen.paper(c);
        for (int i = 0; i < values.length; i++) {
            pen.write(c, i, values[i]);
        }
    }
}
