import java.util.List;

/** The sentences of part 2 on the TAPE and the RULES, and of promises 15 to 19, that name a boundary. */
public final class RuleEdgeTest {
    private static final int NONE = CellarPen.NONE;
    private static final String LINE = "blast when 1=1;";

    public static void main(String[] args) {
        emptyAtFirst();
        fullTape();
        cutTape();
        tapeIsEmptyThen();
        bytesInOrder();
        words();
        numbers();
        otherBytes();
        theEnd();
        whatCanNotStand();
        partByZero();
        sixteenLines();
        eightOpen();
        openNoMore();
        firstByPlace();
        leastAtOnePlace();
        rulesStay();
        latestFault();
        wrapping();
        towardsZero();
        comparisons();
        units();
        firstLineThatIsSo();
        hoursAndDays();
        longestText();
        Due.finish("RuleEdgeTest");
    }

    private static CellarPen withBurst() {
        CellarPen p = new CellarPen();
        p.cellar(0, 0);
        Due.samples(p, 0, 7, -7, 120);
        return p;
    }

    private static void fault(String text, int number, int place) {
        CellarPen p = new CellarPen();
        Due.is("rules of " + text, Due.rules(p, text), NONE);
        Due.is("fault of " + text, p.fault(0), number);
        Due.is("place in " + text, p.fault(1), place);
    }

    private static void lines(String text, int due) {
        CellarPen p = new CellarPen();
        Due.is("rules of " + text, Due.rules(p, text), due);
        Due.is("fault of " + text, p.fault(0), 0);
        Due.is("place in " + text, p.fault(1), NONE);
        Due.is("look of " + text, p.look(2), due);
    }

    private static void so(String condition, boolean due) {
        CellarPen p = withBurst();
        Due.is("rules of " + condition, Due.rules(p, "quake when " + condition + ";"), 1);
        Due.is("kind by " + condition, p.kind(0, 0, 2, 13, 4), due ? 3 : 0);
    }

    private static void emptyAtFirst() {
        Due.says("RULES are a TEXT (empty at first)");
        CellarPen p = withBurst();
        Due.is("no lines", p.look(2), 0);
        Due.is("no kind", p.kind(0, 0, 2, 0, 0), 0);
        Due.is("no fault", p.fault(0), 0);
        Due.is("no place", p.fault(1), NONE);
        Due.is("a tape of none", p.rules(), 0);
        Due.is("no fault", p.fault(0), 0);
        Due.is("no place", p.fault(1), NONE);
        Due.rules(p, LINE);
        Due.is("a tape of none again", p.rules(), 0);
        Due.is("no lines again", p.look(2), 0);
        Due.is("no kind again", p.kind(0, 0, 2, 0, 0), 0);
        lines(" ", 0);
        lines("\n", 0);
    }

    private static void fullTape() {
        Due.says("how many it has. NONE, and nothing comes, if there would be more than 600.");
        CellarPen p = new CellarPen();
        for (int i = 1; i <= 30; i++) {
            Due.is("feed " + i, p.feed(0x20202020, 0x20202020, 0x20202020, 0x20202020, 0x20202020), 20 * i);
        }
        Due.is("the 31st", p.feed(0x20202020, 0x20202020, 0x20202020, 0x20202020, 0x20202020), NONE);
        Due.no("no 601 bytes", p.end(601));
        Due.yes("600 bytes", p.end(600));
        Due.yes("581 bytes", p.end(581));
        Due.is("601 would be", p.feed(0, 0, 0, 0, 0), NONE);
        Due.no("581 still", p.end(582));
        Due.yes("580 bytes", p.end(580));
        Due.is("600 would be", p.feed(0x20202020, 0x20202020, 0x20202020, 0x20202020, 0x2020203B), 600);
        Due.is("the last byte is there", p.rules(), NONE);
        Due.is("the last byte is there", p.fault(1), 599);
    }

    private static void cutTape() {
        Due.says("The TAPE has its first n bytes alone: true; false, changing nothing, if it has not so many, or n is below 0.");
        CellarPen p = new CellarPen();
        Due.yes("0 of none", p.end(0));
        Due.no("1 of none", p.end(1));
        Due.no("-1 of none", p.end(-1));
        Due.feed(p, "truck when 1=1;;;;;;");
        Due.no("21 of 20", p.end(21));
        Due.no("-1", p.end(-1));
        Due.no("the least int", p.end(Integer.MIN_VALUE));
        Due.no("the last int", p.end(Integer.MAX_VALUE));
        Due.yes("all", p.end(20));
        Due.yes("15", p.end(15));
        Due.no("what is cut is gone", p.end(16));
        Due.is("the first 15 bytes", p.rules(), 1);
        Due.feed(p, "truck");
        Due.yes("none", p.end(0));
        Due.is("an empty text", p.rules(), 0);
        p.end(0);
        p.feed(0x74727563, 0x6B207878, 0, 0, 0);
        p.end(6);
        Due.is("behind what was left", p.feed(0x7768656E, 0x20313D31, 0x3B202020, 0x20202020, 0x20202020), 26);
        Due.is("truck when 1=1;", p.rules(), 1);
        cut("truckx when", 5);
        cut("truck when 1=19;", 14);
        cut("truck      ", 5);
        cut("truck when 1=11111;", 17);
    }

    /** What was cut off the TAPE does not join what is left of it. */
    private static void cut(String text, int length) {
        CellarPen p = new CellarPen();
        Due.feed(p, text);
        p.end(length);
        Due.is("cut " + text, p.rules(), NONE);
        Due.is("fault of cut " + text, p.fault(0), 1);
        Due.is("place in cut " + text, p.fault(1), length);
    }

    private static void tapeIsEmptyThen() {
        Due.says("The TAPE, empty then, are the RULES: how many lines.");
        CellarPen p = new CellarPen();
        Due.rules(p, LINE);
        Due.no("empty then", p.end(1));
        Due.is("twenty again", p.feed(0, 0, 0, 0, 0), 20);
        Due.is("a fault", p.rules(), NONE);
        Due.no("empty after a fault, too", p.end(1));
        Due.is("twenty again", p.feed(0x20202020, 0x20202020, 0x20202020, 0x20202020, 0x20202020), 20);
        Due.is("nothing is left of the fault", p.rules(), 0);
    }

    private static void bytesInOrder() {
        Due.says("Twenty bytes come behind the TAPE, of each number the highest first");
        for (int i = 0; i < 20; i++) {
            int[] bytes = {0x20202020, 0x20202020, 0x20202020, 0x20202020, 0x20202020};
            // 255 there and a blank elsewhere
            bytes[i / 4] |= 0xFF << 8 * (3 - i % 4);
            CellarPen p = new CellarPen();
            p.feed(bytes[0], bytes[1], bytes[2], bytes[3], bytes[4]);
            Due.is("byte " + i, p.rules(), NONE);
            Due.is("byte " + i, p.fault(1), i);
        }
    }

    private static void words() {
        Due.says("letters as many as stand together are KEYWORDS (those told here) or none;");
        List<String> bad = List.of("truc", "trucks", "t", "Truck", "TRUCK", "trucktruck", "truckwhen", "lorry");
        for (String word : bad) {
            fault(word + " when 1=1;", 1, 0);
        }
        for (String letter : List.of("a", "z", "A", "Z")) {
            fault("truck" + letter + " when 1=1;", 1, 0);
            fault(letter + "truck when 1=1;", 1, 0);
        }
        fault("truck whe 1=1;", 1, 6);
        fault("truck whenn 1=1;", 1, 6);
        fault("truck when peaks=1;", 1, 11);
        fault("truck when pea=1;", 1, 11);
        fault("truck when notpeak=1;", 1, 11);
        fault("truck when 1=1 orr 1=1;", 1, 15);
        fault("truck when 1=1 And 1=1;", 1, 15);
        for (String word : List.of("hour", "day", "peak", "length", "crossings", "rise", "clipped")) {
            lines("truck when " + word + "=" + word + ";", 1);
        }
        lines("truck when 1=1and 1=1or 1=1;", 1);
        lines("truck\nwhen\n1\n=\n1\n;\n", 1);
        lines("truck when(1=1)or(1=1)and not(1=1);", 1);
    }

    private static void numbers() {
        Due.says("digits as many as stand together NUMBERS of 1 to 4 digits or none;");
        so("1=1", true);
        so("9=9", true);
        so("0=0", true);
        so("13=hour", true);
        so("0013=hour", true);
        so("9999>9998", true);
        so("0000=0", true);
        so("9999+1=5000*2", true);
        fault("quake when 10000=1;", 1, 11);
        fault("quake when 00000=0;", 1, 11);
        fault("quake when 00001=1;", 1, 11);
        fault("quake when 1=12345;", 1, 13);
        fault("quake when " + "7".repeat(580) + "=1;", 1, 11);
        // 4294967297 is 1, if it were wrapped
        fault("quake when 4294967297=1;", 1, 11);
        fault("quake when 1/10000=1;", 1, 13);
        fault("quake when 1 2=12;", 1, 13);
        lines("quake when 1=1234;", 1);
    }

    private static void otherBytes() {
        Due.says("; + - * / ( ) < = > . Blanks (32, 10) between.");
        for (int sign = 0; sign < 256; sign++) {
            boolean blank = sign == 32 || sign == 10;
            if (blank) {
                lines(LINE + (char) sign, 1);
                lines((char) sign + LINE, 1);
                lines("blast when 1" + (char) sign + "=1;", 1);
            } else {
                fault(LINE + (char) sign, 1, 15);
                fault((char) sign + "?", 1, 0);
            }
            boolean digit = sign >= '0' && sign <= '9';
            if (!blank && !digit && "+-*/<=>".indexOf(sign) < 0) {
                fault("blast when 1" + (char) sign, 1, 12);
            }
        }
    }

    private static void theEnd() {
        Due.says("1 what can't stand there (the end: the text's length).");
        List<String> begun = List.of("truck", "truck when", "truck when 1", "truck when 1=", "truck when 1=1",
            "truck when 1+", "truck when 1-", "truck when 1*", "truck when 1/", "truck when 1/2", "truck when not",
            "truck when (", "truck when (1=1", "truck when (1=1)", "truck when 1=1 or", "truck when 1=1 and",
            "truck when 1<peak", LINE + "truck", LINE + "truck when 1=1");
        for (String text : begun) {
            fault(text, 1, text.length());
            fault(text + " ", 1, text.length() + 1);
            fault(text + "\n \n", 1, text.length() + 3);
        }
        String full = "truck when 1=1" + " ".repeat(586);
        Due.is("600 bytes", full.length(), 600);
        fault(full, 1, 600);
        fault("truck when 1=1" + "+1".repeat(293), 1, 600);
        // KEYWORDS and NUMBERS that end with the full TAPE are whole
        fault(LINE + " ".repeat(580) + "truck", 1, 600);
        fault("truck when 1=" + " ".repeat(578) + "crossings", 1, 600);
        fault("truck when 1=" + " ".repeat(583) + "9999", 1, 600);
        fault("truck when 1=" + " ".repeat(582) + "12345", 1, 595);
        fault("truck when 1=1" + " ".repeat(580) + "trucks", 1, 594);
        // what was cut off is no part of the TEXT
        CellarPen p = new CellarPen();
        Due.feed(p, LINE);
        p.end(14);
        Due.is("cut", p.rules(), NONE);
        Due.is("cut", p.fault(1), 14);
    }

    private static final List<String> TOKENS = List.of("truck", "blast", "quake", "when", "or", "and", "not", "hour",
        "day", "peak", "length", "crossings", "rise", "clipped", "5", "9999", ";", "+", "-", "*", "/", "(", ")", "<",
        "=", ">", "12345", "word", "?");
    private static final List<String> HEADS = List.of("truck", "blast", "quake");
    private static final List<String> UNITS = List.of("hour", "day", "peak", "length", "crossings", "rise", "clipped",
        "5", "9999");
    private static final List<String> CONDITIONS = List.of("hour", "day", "peak", "length", "crossings", "rise",
        "clipped", "5", "9999", "not", "(");
    private static final List<String> LEFT = List.of("+", "-", "*", "/", "<", "=", ">");
    private static final List<String> RIGHT = List.of("+", "-", "*", "/", "or", "and", ";");
    private static final List<String> INSIDE = List.of("+", "-", "*", "/", "or", "and", ")");

    /** Behind the beginning these TOKENS can stand and no others. */
    private static void behind(String beginning, List<String> allowed) {
        for (String token : TOKENS) {
            String text = beginning + token;
            if (!allowed.contains(token)) {
                fault(text, 1, beginning.length());
                continue;
            }
            CellarPen p = new CellarPen();
            int answer = Due.rules(p, text);
            Due.is("it can stand in " + text, p.fault(1), answer == NONE ? text.length() : NONE);
        }
    }

    private static void whatCanNotStand() {
        Due.says("{(truck | blast | quake) when B ;}.  B = A {or A}.  A = C {and C}.");
        behind("", HEADS);
        behind(LINE + " ", HEADS);
        behind("truck ", List.of("when"));
        behind("truck when ", CONDITIONS);
        behind("truck when 1=1 or ", CONDITIONS);
        behind("truck when 1=1 and ", CONDITIONS);
        Due.says("C = E (< | = | >) E | not C | ( B ).");
        for (String beginning : List.of("", "not ", "1=1 and ", "1=1 or not ")) {
            behind("truck when " + beginning + "1 ", LEFT);
            behind("truck when " + beginning + "1 = ", UNITS);
            behind("truck when " + beginning + "1 = 1 ", RIGHT);
            behind("truck when " + beginning + "1 + 2 ", LEFT);
            behind("truck when " + beginning + "1 < 2 * 3 ", RIGHT);
        }
        behind("truck when not ", CONDITIONS);
        behind("truck when ( ", CONDITIONS);
        behind("truck when ( 1 ", LEFT);
        behind("truck when ( 1 = 1 ", INSIDE);
        behind("truck when ( 1 = 1 ) ", List.of("or", "and", ";"));
        behind("truck when ( ( 1 = 1 ) ", List.of("or", "and", ")"));
        behind("truck when not ( 1 = 1 ) ", List.of("or", "and", ";"));
        Due.says("E = T {(+ | -) T}.  T = U {* U | / NUMBER}.");
        for (String sign : List.of("+ ", "- ", "* ")) {
            behind("truck when 1 " + sign, UNITS);
            behind("truck when 1 = 1 " + sign, UNITS);
        }
        behind("truck when 1 / ", List.of("5", "9999"));
        behind("truck when 1 = 1 / ", List.of("5", "9999"));
        behind("truck when 1 / 2 ", LEFT);
        behind("truck when 1 = 1 / 2 ", RIGHT);
    }

    private static void partByZero() {
        Due.says("2 (at the NUMBER) a part by 0.");
        fault("truck when 1/0=1;", 2, 13);
        fault("truck when 1/00=1;", 2, 13);
        fault("truck when 1/0000=1;", 2, 13);
        fault("truck when 1 / \n 0=1;", 2, 17);
        fault("truck when 1=1/0;", 2, 15);
        fault("truck when 0/0=1;", 2, 13);
        fault("truck when 1/1/0=1;", 2, 15);
        fault(LINE + "truck when 1/0=1;", 2, 28);
        fault("truck when 1/0", 2, 13);
        fault("truck when 1/00000=1;", 1, 13);
        lines("truck when 1/1=1;", 1);
        lines("truck when 0/1=0;", 1);
        lines("truck when 1*0=0;", 1);
        lines("truck when 1-0=0+0;", 1);
        lines("truck when 1/0001=1;", 1);
        lines("truck when 1/1*0=0;", 1);
    }

    private static void sixteenLines() {
        Due.says("3 (at its KEYWORD) the 17th line;");
        lines(LINE.repeat(15), 15);
        lines(LINE.repeat(16), 16);
        lines(LINE.repeat(16) + "\n ", 16);
        fault(LINE.repeat(17), 3, 240);
        fault(LINE.repeat(16) + " \n truck", 3, 243);
        fault(LINE.repeat(16) + "quake nonsense", 3, 240);
        fault(LINE.repeat(20), 3, 240);
        CellarPen p = withBurst();
        Due.rules(p, "blast when 1=2;".repeat(15) + "quake when 1=1;");
        Due.is("the 16th tells", p.kind(0, 0, 2, 0, 0), 3);
    }

    private static void eightOpen() {
        Due.says("(at it) the 9th ( or not that is open.");
        lines("truck when " + "(".repeat(8) + "1=1" + ")".repeat(8) + ";", 1);
        fault("truck when " + "(".repeat(9) + "1=1" + ")".repeat(9) + ";", 3, 19);
        fault("truck when " + "(".repeat(9), 3, 19);
        lines("truck when " + "not ".repeat(8) + "1=1;", 1);
        fault("truck when " + "not ".repeat(9) + "1=1;", 3, 43);
        lines("truck when " + "not(".repeat(4) + "1=1" + ")".repeat(4) + ";", 1);
        fault("truck when " + "not(".repeat(4) + "(1=1)" + ")".repeat(4) + ";", 3, 27);
        fault("truck when " + "not(".repeat(4) + "not 1=1" + ")".repeat(4) + ";", 3, 27);
        lines("truck when " + "(not ".repeat(4) + "1=1" + ")".repeat(4) + ";", 1);
        fault("truck when " + "(not ".repeat(4) + "(1=1)" + ")".repeat(4) + ";", 3, 31);
        fault("truck when " + "1=1 and (".repeat(8) + "1=1 or not 1=1" + ")".repeat(8) + ";", 3, 11 + 72 + 7);
        so("not ".repeat(8) + "1=1", true);
        so("not ".repeat(7) + "1=1", false);
        so("(".repeat(8) + "1=2" + ")".repeat(8), false);
        fault(LINE + "truck when " + "not ".repeat(9) + "1=1;", 3, 15 + 43);
    }

    private static void openNoMore() {
        Due.says("the 9th ( or not that is open.");
        String eight = "(".repeat(8) + "1=1" + ")".repeat(8);
        lines("truck when " + eight + " or " + eight + " and " + eight + ";", 1);
        String nots = "not ".repeat(8) + "1=1";
        lines("truck when " + nots + " or " + nots + " and " + nots + ";", 1);
        lines("truck when not " + "(".repeat(7) + "1=1" + ")".repeat(7) + " and " + nots + ";", 1);
        lines("truck when (not 1=1 or " + "not ".repeat(7) + "1=1);", 1);
        fault("truck when (not 1=1 or " + "not ".repeat(8) + "1=1);", 3, 23 + 28);
        lines("truck when ((1=1) and " + "(".repeat(7) + "1=1" + ")".repeat(8) + ";", 1);
        fault("truck when ((1=1) and " + "(".repeat(8) + "1=1" + ")".repeat(9) + ";", 3, 22 + 7);
        lines("truck when (not(1=1) or " + "not ".repeat(7) + "1=1);", 1);
        lines("truck when " + nots + "; truck when " + nots + ";", 2);
        // a TEXT with a FAULT leaves nothing open for the next one
        CellarPen p = new CellarPen();
        Due.is("a fault", Due.rules(p, "truck when " + "(".repeat(8)), NONE);
        Due.is("eight anew", Due.rules(p, "truck when " + eight + ";"), 1);
        Due.is("a fault", Due.rules(p, "truck when " + "not ".repeat(8)), NONE);
        Due.is("eight anew", Due.rules(p, "truck when " + nots + ";"), 1);
    }

    private static void firstByPlace() {
        Due.says("FAULTS, the first by its place,");
        fault("truck when 1/0=1 ? " + "(".repeat(9), 2, 13);
        fault("truck when ? 1/0=1", 1, 11);
        fault("truck when " + "(".repeat(9) + "1/0=?", 3, 19);
        fault("truck when 1/0=1;" + LINE.repeat(17), 2, 13);
        fault(LINE.repeat(16) + "truck when 1/0=1;", 3, 240);
        fault("? ?", 1, 0);
        fault("truck when 1=1; truck when 1/0=1", 2, 29);
    }

    private static void leastAtOnePlace() {
        Due.says("at one place the least:");
        fault("truck when " + "(".repeat(8) + "1=(", 1, 11 + 10);
        fault("truck when " + "(".repeat(8) + "1=1(", 1, 11 + 11);
        fault("truck when " + "(".repeat(8) + "1=not", 1, 11 + 10);
        fault("truck when " + "not ".repeat(8) + "1=1 not", 1, 11 + 36);
        fault(LINE.repeat(16) + "when", 1, 240);
        fault(LINE.repeat(16) + "not", 1, 240);
        fault(LINE.repeat(16) + "Truck", 1, 240);
        fault("truck when 1=1 truck", 1, 15);
        fault("0", 1, 0);
    }

    private static void rulesStay() {
        Due.says("NONE: a FAULT (they stay as they were).");
        CellarPen p = withBurst();
        Due.is("a fault at first", Due.rules(p, "quake"), NONE);
        Due.is("no lines", p.look(2), 0);
        Due.is("no kind", p.kind(0, 0, 2, 0, 0), 0);
        Due.rules(p, "quake when hour=5; blast when 1=1;");
        String[] faulty = {"truck when 1=1; truck", "truck when 1=1;".repeat(17), "truck when 1/0=1;", "?"};
        for (String text : faulty) {
            Due.is("a fault of " + text, Due.rules(p, text), NONE);
            Due.is("two lines", p.look(2), 2);
            Due.is("the first", p.kind(0, 0, 2, 5, 0), 3);
            Due.is("the second", p.kind(0, 0, 2, 6, 0), 2);
        }
        Due.is("new ones", Due.rules(p, "truck when 1=1;"), 1);
        Due.is("by the new ones", p.kind(0, 0, 2, 5, 0), 1);
    }

    private static void latestFault() {
        Due.says("Of the latest rules(): what 0 the FAULT (0 without one), 1 its place (NONE). NONE for another what.");
        CellarPen p = new CellarPen();
        Due.rules(p, " ?");
        Due.is("fault", p.fault(0), 1);
        Due.is("place", p.fault(1), 1);
        p.feed(0, 0, 0, 0, 0);
        p.end(0);
        Due.is("the tape changes nothing", p.fault(0), 1);
        Due.is("what 2", p.fault(2), NONE);
        Due.is("what -1", p.fault(-1), NONE);
        Due.rules(p, "truck when 1/0=1;");
        Due.is("the latest", p.fault(0), 2);
        Due.is("its place", p.fault(1), 13);
        Due.rules(p, LINE);
        Due.is("none now", p.fault(0), 0);
        Due.is("no place now", p.fault(1), NONE);
    }

    private static void wrapping() {
        Due.says("Ints, which wrap;");
        // 9999 9999 is 99980001; 21 times that is 2099580021, 22 times is 2199560022, an int below 0
        so("9999*9999*21>0", true);
        so("9999*9999*22<0", true);
        so("9999*9999*21+9999*9999<0", true);
        so("0-9999*9999*21-9999*9999>0", true);
        so("9999*9999*21+9999*9999=9999*9999*22", true);
        so("9999*9999*21+9999*9999-9999*9999=9999*9999*21", true);
        // 2 to the 31 is the least int, 2 to the 32 is 0
        so("4096*4096*128<0", true);
        so("4096*4096*256=0", true);
        so("0-4096*4096*128=4096*4096*128", true);
        so("4096*4096*128-1>0", true);
    }

    private static void towardsZero() {
        Due.says("/ goes towards 0.");
        so("7/2=3", true);
        so("1/2=0", true);
        // the least int is no 3 times anything: 2 are left, above it
        so("4096*4096*128/3*3+2=4096*4096*128+4", true);
        so("4096*4096*128/3*3=4096*4096*128+2", true);
        so("4096*4096*128/9999*9999>4096*4096*128", true);
        so("peak/7*7=119", true);
        so("0/9999=0", true);
    }

    private static void comparisons() {
        Due.says("C = E (< | = | >) E");
        so("5<5", false);
        so("5=5", true);
        so("5>5", false);
        so("4<5", true);
        so("4=5", false);
        so("4>5", false);
        so("0-1<0", true);
        so("4096*4096*128<4096*4096*128-1", true);
    }

    private static void units() {
        Due.says("U = NUMBER | hour | day | peak | length | crossings | rise | clipped.");
        String[] names = {"hour", "day", "peak", "length", "crossings", "rise", "clipped"};
        int[] most = {23, 6, 999, 6, 4, 3, 1};
        int[] least = {0, 0, 0, 1, 0, 0, 0};
        CellarPen p = new CellarPen();
        p.cellar(0, 0);
        Due.samples(p, 0, 7, -7, 98, -999, 5, 0);
        for (int i = 0; i < names.length; i++) {
            Due.rules(p, "truck when " + names[i] + "=" + most[i] + "; blast when " + names[i] + "=" + least[i] + ";");
            Due.is("the most of " + names[i], p.kind(0, 0, 5, 23, 6), 1);
            Due.is("the least of " + names[i], p.kind(0, 5, 5, 0, 0), 2);
        }
        so("0=0000", true);
        so("9999>9998", true);
    }

    private static void firstLineThatIsSo() {
        Due.says("A BURST is 1 truck, 2 blast, 3 quake by the first line whose B is so, 0 without one");
        CellarPen p = withBurst();
        Due.rules(p, "truck when hour=1; blast when hour<3; quake when hour<4;");
        Due.is("the first of all", p.kind(0, 0, 2, 1, 0), 1);
        Due.is("the first of two", p.kind(0, 0, 2, 2, 0), 2);
        Due.is("the last", p.kind(0, 0, 2, 3, 0), 3);
        Due.is("none", p.kind(0, 0, 2, 4, 0), 0);
    }

    private static void hoursAndDays() {
        Due.says("hour 0 .. 23 and day 0 .. 6 are told with it;");
        CellarPen p = withBurst();
        Due.rules(p, "truck when hour=0 and day=0; blast when hour=23 and day=6;");
        Due.is("0, 0", p.kind(0, 0, 2, 0, 0), 1);
        Due.is("23, 6", p.kind(0, 0, 2, 23, 6), 2);
        Due.is("0, 6", p.kind(0, 0, 2, 0, 6), 0);
        Due.is("24", p.kind(0, 0, 2, 24, 0), NONE);
        Due.is("-1", p.kind(0, 0, 2, -1, 0), NONE);
        Due.is("day 7", p.kind(0, 0, 2, 0, 7), NONE);
        Due.is("day -1", p.kind(0, 0, 2, 0, -1), NONE);
        Due.says("What a BURST is by the RULES; NONE if one can't be.");
        Due.is("beyond", p.kind(0, 0, 3, 0, 0), NONE);
        Due.is("b ahead of a", p.kind(0, 2, 1, 0, 0), NONE);
        Due.is("a -1", p.kind(0, -1, 1, 0, 0), NONE);
        Due.is("no such cellar", p.kind(1, 0, 0, 0, 0), NONE);
        p.write(0, 1, CellarPen.UNKNOWN);
        Due.is("a missing one", p.kind(0, 0, 2, 0, 0), NONE);
        Due.is("beside it", p.kind(0, 2, 2, 0, 0), 1);
    }

    private static void longestText() {
        Due.says("if there would be more than 600.");
        String spaced = "quake when 1=1" + " ".repeat(585) + ";";
        Due.is("bytes", spaced.length(), 600);
        lines(spaced, 1);
        String sum = "quake when 1" + "+1".repeat(291) + "=292;";
        Due.is("bytes", sum.length(), 599);
        CellarPen p = withBurst();
        Due.is("a long sum", Due.rules(p, sum), 1);
        Due.is("is so", p.kind(0, 0, 2, 0, 0), 3);
        String many = "quake when " + "1=2or ".repeat(97) + "1=1   ;";
        Due.is("bytes", many.length(), 600);
        Due.is("many conditions", Due.rules(p, many), 1);
        Due.is("are so", p.kind(0, 0, 2, 0, 0), 3);
    }
}
