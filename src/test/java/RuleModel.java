import java.util.Map;
import java.util.Set;

/** The RULES' grammar written down as it stands in the document, by descent; the class itself goes another way. */
final class RuleModel {
    private static final Set<String> KEYWORDS = Set.of("truck", "blast", "quake", "when", "or", "and", "not", "hour",
        "day", "peak", "length", "crossings", "rise", "clipped");
    private static final Set<String> FACTS = Set.of("hour", "day", "peak", "length", "crossings", "rise", "clipped");

    /** A FAULT, thrown where it is found. */
    static final class Fault extends RuntimeException {
        private static final long serialVersionUID = 1L;
        final int number;
        final int place;

        Fault(int number, int place) {
            this.number = number;
            this.place = place;
        }
    }

    private final String text;
    private final Map<String, Integer> facts;
    private int next;
    private int place;
    private String token;
    private int open;
    int lines;
    int verdict;

    RuleModel(String text, Map<String, Integer> facts) {
        this.text = text;
        this.facts = facts;
    }

    void read() {
        scan();
        while (!token.isEmpty()) {
            int kind = "truck".equals(token) ? 1 : "blast".equals(token) ? 2 : "quake".equals(token) ? 3 : 0;
            if (kind == 0) {
                throw new Fault(1, place);
            }
            if (lines == 16) {
                throw new Fault(3, place);
            }
            scan();
            due("when");
            boolean holds = either();
            due(";");
            lines++;
            if (holds && verdict == 0) {
                verdict = kind;
            }
        }
    }

    private void due(String wanted) {
        if (!token.equals(wanted)) {
            throw new Fault(1, place);
        }
        scan();
    }

    private boolean either() {
        boolean holds = both();
        while (token.equals("or")) {
            scan();
            holds = both() | holds;
        }
        return holds;
    }

    private boolean both() {
        boolean holds = condition();
        while (token.equals("and")) {
            scan();
            holds = condition() & holds;
        }
        return holds;
    }

    private boolean condition() {
        if (token.equals("not") || token.equals("(")) {
            if (open == 8) {
                throw new Fault(3, place);
            }
            boolean not = token.equals("not");
            open++;
            scan();
            boolean holds = not ? !condition() : either();
            if (!not) {
                due(")");
            }
            open--;
            return holds;
        }
        int left = sum();
        String sign = token;
        if (!sign.equals("<") && !sign.equals("=") && !sign.equals(">")) {
            throw new Fault(1, place);
        }
        scan();
        int right = sum();
        return sign.equals("<") ? left < right : sign.equals("=") ? left == right : left > right;
    }

    private int sum() {
        int value = product();
        while (token.equals("+") || token.equals("-")) {
            boolean plus = token.equals("+");
            scan();
            int more = product();
            value = plus ? value + more : value - more;
        }
        return value;
    }

    private int product() {
        int value = unit();
        while (token.equals("*") || token.equals("/")) {
            boolean times = token.equals("*");
            scan();
            if (times) {
                value = value * unit();
                continue;
            }
            if (!Character.isDigit(token.isEmpty() ? ' ' : token.charAt(0))) {
                throw new Fault(1, place);
            }
            if (Integer.parseInt(token) == 0) {
                throw new Fault(2, place);
            }
            value = value / unit();
        }
        return value;
    }

    private int unit() {
        int value;
        if (!token.isEmpty() && Character.isDigit(token.charAt(0))) {
            value = Integer.parseInt(token);
        } else if (FACTS.contains(token)) {
            value = facts.get(token);
        } else {
            throw new Fault(1, place);
        }
        scan();
        return value;
    }

    /** The next token; empty at the end. What is none is a FAULT here already: nothing of that kind can stand. */
    private void scan() {
        while (next < text.length() && (text.charAt(next) == ' ' || text.charAt(next) == '\n')) {
            next++;
        }
        place = next;
        int end = next;
        if (next == text.length()) {
            token = "";
            return;
        }
        String letter = "[a-zA-Z]";
        String digit = "[0-9]";
        String kind = text.substring(next, next + 1).matches(letter) ? letter : digit;
        while (end < text.length() && text.substring(end, end + 1).matches(kind)) {
            end++;
        }
        boolean sign = end == next;
        token = text.substring(next, sign ? next + 1 : end);
        next += token.length();
        boolean stands = sign ? ";+-*/()<=>".contains(token)
            : kind.equals(letter) ? KEYWORDS.contains(token) : token.length() <= 4;
        if (!stands) {
            token = "?";
        }
    }
}
