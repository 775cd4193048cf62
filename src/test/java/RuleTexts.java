import java.util.ArrayList;
import java.util.List;
import java.util.Random;

/** RULES by chance: half of them as the grammar wants them, half with a TOKEN or two that do not belong. */
final class RuleTexts {
    private static final String[] TOKENS = {"truck", "blast", "quake", "when", "or", "and", "not", "(", ")", "+", "-",
        "*", "/", "<", "=", ">", ";", "hour", "day", "peak", "length", "crossings", "rise", "clipped", "0", "1", "12",
        "9999", "12345", "xyz", "Or", "?", "."};

    private final Random random;

    RuleTexts(Random random) {
        this.random = random;
    }

    String next() {
        List<String> out = new ArrayList<>();
        int lines = random.nextInt(4) == 0 ? random.nextInt(20) : 1 + random.nextInt(3);
        for (int i = 0; i < lines; i++) {
            out.add(any("truck", "blast", "quake"));
            out.add("when");
            if (lines > 5) {
                out.addAll(List.of(any("1", "2"), "=", "3"));
            } else {
                either(out, 0);
            }
            out.add(";");
        }
        int mutations = random.nextBoolean() ? 0 : 1 + random.nextInt(2);
        for (int i = 0; i < mutations && !out.isEmpty(); i++) {
            spoil(out, random.nextInt(out.size()));
        }
        StringBuilder text = new StringBuilder();
        for (String token : out) {
            text.append(token).append(any(" ", " ", "\n", "  ", random.nextInt(4) == 0 ? "" : " "));
        }
        return text.length() > 600 ? text.substring(0, 600) : text.toString();
    }

    private void spoil(List<String> out, int at) {
        int way = random.nextInt(3);
        if (way == 0) {
            out.remove(at);
        } else if (way == 1) {
            out.set(at, any(TOKENS));
        } else {
            out.add(at, any(TOKENS));
        }
    }

    private String any(String... choices) {
        return choices[random.nextInt(choices.length)];
    }

    private void unit(List<String> out) {
        out.add(random.nextBoolean() ? String.valueOf(random.nextInt(random.nextBoolean() ? 12 : 10000))
            : any("hour", "day", "peak", "length", "crossings", "rise", "clipped"));
    }

    private void sum(List<String> out) {
        unit(out);
        while (random.nextInt(3) == 0) {
            String sign = any("+", "-", "*", "/");
            out.add(sign);
            if (sign.equals("/")) {
                out.add(String.valueOf(random.nextInt(20)));
            } else {
                unit(out);
            }
        }
    }

    private void condition(List<String> out, int depth) {
        int way = random.nextInt(depth > 9 ? 1 : 4);
        if (way <= 1) {
            sum(out);
            out.add(any("<", "=", ">"));
            sum(out);
        } else if (way == 2) {
            out.add("not");
            condition(out, depth + 1);
        } else {
            out.add("(");
            either(out, depth + 1);
            out.add(")");
        }
    }

    private void either(List<String> out, int depth) {
        condition(out, depth);
        while (random.nextInt(3) == 0) {
            out.add(any("or", "and"));
            condition(out, depth);
        }
    }
}
