import java.io.IOException;
import java.nio.file.Files;
import java.nio.file.Path;
import java.util.ArrayList;
import java.util.Arrays;
import java.util.List;
import java.util.regex.Matcher;
import java.util.regex.Pattern;
import java.util.stream.Stream;

/** Each promise, each part of the document's terms, and each sentence of them has a test that says its words. */
public final class SentenceTest {
    private static final Path DOCUMENT = Path.of("../shared/DOC.md");
    private static final Pattern SAID = Pattern.compile("Due\\.says\\(\"([^\"]+)\"\\)");
    // a full stop, but not the two of a range
    private static final Pattern STOP = Pattern.compile("(?<!\\.)\\.(?!\\.)(?=\\s)|\n\\s*\n");
    // headings, the numbers of parts, and the lines that hold a text together
    private static final Pattern NO_SENTENCE = Pattern.compile("#.*|(```)?\\s*(====.*)?|```text");

    public static void main(String[] args) throws IOException {
        List<String> said = said();
        Due.yes("tests say words of the document", said.size() > 42);
        if (Files.isReadable(DOCUMENT)) {
            String document = Files.readString(DOCUMENT);
            for (int number = 1; number <= 42; number++) {
                isSaid("promise " + number, section(document, "## Promise " + number + ":", "\n## "), said);
            }
            for (int part = 1; part <= 5; part++) {
                isSaid("part " + part, section(document, "==== " + part + ".", "===="), said);
            }
            everySentence(document, said);
        }
        Due.finish("SentenceTest");
    }

    private static List<String> said() throws IOException {
        List<String> said = new ArrayList<>();
        try (Stream<Path> files = Files.list(Path.of("src/test/java"))) {
            for (Path file : files.toList()) {
                Matcher words = SAID.matcher(Files.readString(file));
                while (words.find()) {
                    said.add(words.group(1));
                }
            }
        }
        return said;
    }

    private static String section(String document, String head, String next) {
        int from = document.indexOf(head);
        Due.yes("the document has " + head, from >= 0);
        if (from < 0) {
            return "";
        }
        int to = document.indexOf(next, from + head.length());
        return document.substring(from, to < 0 ? document.length() : to);
    }

    private static void isSaid(String name, String section, List<String> said) {
        Due.yes("words of " + name + " are said by a test", said.stream().anyMatch(section::contains));
    }

    private static void everySentence(String document, List<String> said) {
        boolean[] isQuoted = new boolean[document.length()];
        for (String words : said) {
            for (int at = document.indexOf(words); at >= 0; at = document.indexOf(words, at + 1)) {
                Arrays.fill(isQuoted, at, at + words.length(), true);
            }
        }
        int from = document.indexOf("## Terms");
        int to = document.indexOf("## Not promised");
        Due.yes("the document has terms, and an end of them", from >= 0 && to > from);
        Matcher stop = STOP.matcher(document);
        while (from >= 0 && from < to && stop.find(from)) {
            String sentence = document.substring(from, stop.start()).strip();
            if (!NO_SENTENCE.matcher(sentence).matches()) {
                Due.yes("said by a test: " + sentence, isAnyQuoted(isQuoted, from, stop.start()));
            }
            from = stop.end();
        }
    }

    private static boolean isAnyQuoted(boolean[] isQuoted, int from, int to) {
        boolean any = false;
        for (int i = from; i < to; i++) {
            any |= isQuoted[i];
        }
        return any;
    }
}
