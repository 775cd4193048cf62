/** Promises 15 to 19: the TAPE, RULES, FAULTS and what a BURST is. */
public final class RulesTest {
    private static final int NONE = CellarPen.NONE;

    public static void main(String[] args) {
        tape();
        lines();
        kinds();
        arithmetic();
        logic();
        faults();
        cuts();
        limits();
        Due.finish("RulesTest");
    }

    private static void tape() {
        CellarPen p = new CellarPen();
        Due.no("end beyond", p.end(1));
        Due.yes("end of nothing", p.end(0));
        Due.no("end -1", p.end(-1));
        for (int i = 1; i <= 30; i++) {
            Due.is("feed " + i, p.feed(0, 0, 0, 0, 0), 20 * i);
        }
        Due.is("beyond 600", p.feed(0, 0, 0, 0, 0), NONE);
        Due.no("nothing came", p.end(601));
        Due.yes("581", p.end(581));
        Due.is("beyond 600", p.feed(0, 0, 0, 0, 0), NONE);
        Due.yes("580", p.end(580));
        Due.is("just 600", p.feed(0, 0, 0, 0, 0), 600);
        Due.yes("600", p.end(600));
        p.end(0);
        // bytes, the highest first; those above 127 are no token
        p.feed(0x20200A20, 0xFF202020, 0, 0, 0);
        p.end(5);
        Due.is("a byte 255", p.rules(), NONE);
        Due.is("its place", p.fault(1), 4);
        Due.no("the tape is empty then", p.end(1));
        p.feed(0x74727563, 0x6B207768, 0x656E2031, 0x3D313B00, 0);
        p.end(15);
        Due.is("truck when 1=1;", p.rules(), 1);
        Due.no("the tape is empty then", p.end(1));
    }

    private static void lines() {
        CellarPen p = new CellarPen();
        Due.is("no fault at first", p.fault(0), 0);
        Due.is("no place at first", p.fault(1), NONE);
        Due.is("fault of 2", p.fault(2), NONE);
        Due.is("fault of -1", p.fault(-1), NONE);
        Due.is("an empty text", p.rules(), 0);
        Due.is("two", Due.rules(p, "truck when 1=1;\nquake when 2=2;"), 2);
        Due.is("look", p.look(2), 2);
        Due.is("a fault", Due.rules(p, "truck when 1=1"), NONE);
        Due.is("they stay", p.look(2), 2);
        Due.is("fault", p.fault(0), 1);
        Due.is("place", p.fault(1), 14);
        Due.is("an empty one again", Due.rules(p, "  \n "), 0);
        Due.is("no fault", p.fault(0), 0);
        Due.is("no place", p.fault(1), NONE);
        Due.is("look", p.look(2), 0);
    }

    private static CellarPen withBurst() {
        CellarPen p = new CellarPen();
        p.cellar(0, 0);
        Due.samples(p, 0, 1, -2, 3, -120, 130, 0, CellarPen.UNKNOWN);
        return p;
    }

    private static int judged(String rules) {
        CellarPen p = withBurst();
        Due.is("rules of " + rules, Due.rules(p, rules) > 0 ? 1 : 0, 1);
        return p.kind(0, 0, 5, 13, 4);
    }

    private static void kinds() {
        CellarPen p = withBurst();
        Due.is("without rules", p.kind(0, 0, 5, 0, 0), 0);
        Due.rules(p, "blast when hour > 9 ; truck when hour > 5 ; quake when day = 6 ;");
        Due.is("the first that is so", p.kind(0, 0, 5, 10, 6), 2);
        Due.is("the second", p.kind(0, 0, 5, 6, 6), 1);
        Due.is("the third", p.kind(0, 0, 5, 5, 6), 3);
        Due.is("none", p.kind(0, 0, 5, 5, 5), 0);
        Due.is("hour 23", p.kind(0, 0, 5, 23, 0), 2);
        Due.is("hour 24", p.kind(0, 0, 5, 24, 0), NONE);
        Due.is("hour -1", p.kind(0, 0, 5, -1, 0), NONE);
        Due.is("day 7", p.kind(0, 0, 5, 0, 7), NONE);
        Due.is("day -1", p.kind(0, 0, 5, 0, -1), NONE);
        Due.is("a missing one", p.kind(0, 0, 6, 0, 0), NONE);
        Due.is("beyond", p.kind(0, 0, 7, 0, 0), NONE);
        Due.is("a above b", p.kind(0, 3, 2, 0, 0), NONE);
        Due.is("cellar 1", p.kind(1, 0, 0, 0, 0), NONE);
        Due.is("after a fault", Due.rules(p, "quake"), NONE);
        Due.is("the rules stay", p.kind(0, 0, 5, 10, 6), 2);
        Due.rules(p, "");
        Due.is("rules of no lines", p.kind(0, 0, 5, 10, 6), 0);
    }

    private static void arithmetic() {
        Due.is("hour", judged("quake when hour = 13;"), 3);
        Due.is("day", judged("quake when day = 4;"), 3);
        Due.is("peak", judged("quake when peak = 130;"), 3);
        Due.is("length", judged("quake when length = 6;"), 3);
        Due.is("crossings", judged("quake when crossings = 4;"), 3);
        Due.is("rise", judged("quake when rise = 4;"), 3);
        Due.is("clipped", judged("quake when clipped = 2;"), 3);
        CellarPen later = withBurst();
        Due.rules(later, "quake when length = 3 and rise = 1 and crossings = 1 and peak = 120;");
        Due.is("from sample 2 on", later.kind(0, 2, 3, 0, 0), 0);
        Due.rules(later, "quake when length = 2 and rise = 1 and crossings = 1 and peak = 120;");
        Due.is("from sample 2 on", later.kind(0, 2, 3, 0, 0), 3);
        Due.is("from the left", judged("quake when 10-3-2 = 5;"), 3);
        Due.is("* ahead of +", judged("quake when 2+3*4 = 14;"), 3);
        Due.is("* ahead of -", judged("quake when 20-3*4+1 = 9;"), 3);
        Due.is("/ and * from the left", judged("quake when 7/2*2 = 6;"), 3);
        Due.is("* and / from the left", judged("quake when 3*7/2 = 10;"), 3);
        // 9999 9999 22 wraps to -2095407274; by 9999 it is -209561.7
        Due.is("towards 0", judged("quake when 9999*9999*22/9999 = 0-2095*100-61;"), 3);
        Due.is("wraps", judged("quake when 9999*9999*22 < 0;"), 9999 * 9999 * 22 < 0 ? 3 : 0);
        Due.is("less is strict", judged("quake when 3 < 3; blast when 3 > 3; truck when 3 = 3;"), 1);
        Due.is("noughts ahead", judged("quake when 0013 = hour;"), 3);
        Due.is("the right side too", judged("quake when 1 < 2 - 3 + 4 * 2 / 3;"), 0);
        Due.is("the right side too", judged("quake when 1 > 2 - 3 + 4 / 3;"), 3);
    }

    private static void logic() {
        Due.is("and ahead of or", judged("quake when 1=1 or 1=1 and 1=2;"), 3);
        Due.is("and ahead of or", judged("quake when 1=2 and 1=1 or 1=1;"), 3);
        Due.is("brackets", judged("quake when (1=1 or 1=1) and 1=2;"), 0);
        Due.is("not binds the next", judged("quake when not 1=2 and 1=2;"), 0);
        Due.is("not binds the next", judged("quake when not 1=1 or 1=1;"), 3);
        Due.is("not of a bracket", judged("quake when not (1=1 and 1=2);"), 3);
        Due.is("not not", judged("quake when not not 1=1;"), 3);
        Due.is("not not not", judged("quake when not(not(not 1=1));"), 0);
        Due.is("or of many", judged("quake when 1=2 or 1=2 or 1=2 or 1=1;"), 3);
        Due.is("and of many", judged("quake when 1=1 and 1=1 and 1=1 and 1=2;"), 0);
        Due.is("close together", judged("quake\nwhen(1=1)and not(2>3)or 4<3;"), 3);
        Due.is("tokens without blanks", judged("quake when 1=1and 2=2or 3=4;"), 3);
    }

    private static void fault(String text, int number, int place) {
        CellarPen p = new CellarPen();
        Due.is("rules of " + text, Due.rules(p, text), NONE);
        Due.is("fault of " + text, p.fault(0), number);
        Due.is("place in " + text, p.fault(1), place);
    }

    private static void faults() {
        fault("x", 1, 0);
        fault("Truck when 1=1;", 1, 0);
        fault("truckX when 1=1;", 1, 0);
        fault("truckwhen 1=1;", 1, 0);
        for (char letter : new char[] {'a', 'z', 'A', 'Z'}) {
            fault("truck" + letter, 1, 0);
        }
        for (char sign : new char[] {'@', '[', '`', '{', 0, 128, 233}) {
            fault("truck" + sign, 1, 5);
        }
        fault("truck when 1/:", 1, 13);
        fault("truck", 1, 5);
        fault("truck  ", 1, 7);
        fault("truck 1=1;", 1, 6);
        fault("when 1=1;", 1, 0);
        fault("; truck when 1=1;", 1, 0);
        fault("truck when ;", 1, 11);
        fault("truck when 1;", 1, 12);
        fault("truck when 1=;", 1, 13);
        fault("truck when 1=1=1;", 1, 14);
        fault("truck when (1)=1;", 1, 13);
        fault("truck when (1+1)=2;", 1, 15);
        fault("truck when 1=(1);", 1, 13);
        fault("truck when 1=1);", 1, 14);
        fault("truck when (1=1;", 1, 15);
        fault("truck when ((1=1);", 1, 17);
        fault("truck when (1=1) + 2 = 3;", 1, 17);
        fault("truck when (1=1) = 1;", 1, 17);
        fault("truck when (1=1)(1=1);", 1, 16);
        fault("truck when not;", 1, 14);
        fault("truck when 1 and 1=1;", 1, 13);
        fault("truck when -1=1;", 1, 11);
        fault("truck when 1=not 1;", 1, 13);
        fault("truck when 1/hour=1;", 1, 13);
        fault("truck when 1/0=1;", 2, 13);
        fault("truck when 1/ 0000=1;", 2, 14);
        fault("truck when 1/00000=1;", 1, 13);
        fault("truck when 1/1*0=0/0;", 2, 19);
        fault("truck when 12345=1;", 1, 11);
        fault("truck when 1=1;\t", 1, 15);
        fault("truck when 1=1;\r", 1, 15);
        fault("truck when 1.=1;", 1, 12);
        fault("truck when 1=1 or;", 1, 17);
        fault("truck when 1=1 quake;", 1, 15);
        fault("truck when 1 2=1;", 1, 13);
        fault("truck when peak hour=1;", 1, 16);
        fault("truck truck when 1=1;", 1, 6);
        // the first by its place
        fault("truck when 1/0=1 nonsense", 2, 13);
        fault("truck nonsense when 1/0=1;", 1, 6);
        CellarPen p = new CellarPen();
        Due.is("0 as a factor", Due.rules(p, "truck when 1*0=0;"), 1);
        Due.is("0 ahead of a /", Due.rules(p, "truck when 0/1=0;"), 1);
    }

    /** What was cut off the TAPE is no part of the TEXT. */
    private static void cut(String text, int length) {
        CellarPen p = new CellarPen();
        Due.feed(p, text);
        p.end(length);
        Due.is("cut " + text, p.rules(), NONE);
        Due.is("fault of cut " + text, p.fault(0), 1);
        Due.is("place in cut " + text, p.fault(1), length);
    }

    private static void cuts() {
        cut("truckx when", 5);
        cut("truck      ", 5);
        cut("truck when 1=19;", 14);
        cut("truck when 1=1;", 14);
        CellarPen p = new CellarPen();
        Due.feed(p, "truck when 1=1; nonsense");
        p.end(15);
        Due.is("the nonsense is cut off", p.rules(), 1);
        Due.is("a fault in the midst", Due.rules(p, "truck when 1 < 2 and not not 1="), NONE);
        Due.is("leaves nothing behind", Due.rules(p, "blast when 1=1;"), 1);
        p.cellar(0, 0);
        p.write(0, 0, 0);
        Due.is("leaves nothing behind", p.kind(0, 0, 0, 0, 0), 2);
        Due.is("a fault in brackets", Due.rules(p, "truck when not ((((((("), NONE);
        Due.is("leaves no bracket open", Due.rules(p, "quake when not ((((((( 1=2 )))))));"), 1);
        Due.is("and is so", p.kind(0, 0, 0, 0, 0), 3);
    }

    private static String repeated(String text, int times) {
        StringBuilder all = new StringBuilder();
        for (int i = 0; i < times; i++) {
            all.append(text);
        }
        return all.toString();
    }

    private static void limits() {
        CellarPen p = new CellarPen();
        String line = "blast when 1=1;";
        Due.is("sixteen lines", Due.rules(p, repeated(line, 16)), 16);
        fault(repeated(line, 17), 3, 16 * 15);
        fault(repeated(line, 16) + "  quake", 3, 16 * 15 + 2);
        fault(repeated(line, 16) + "when", 1, 16 * 15);
        Due.is("eight not", Due.rules(p, "truck when " + repeated("not ", 8) + "1=1;"), 1);
        fault("truck when " + repeated("not ", 9) + "1=1;", 3, 11 + 32);
        Due.is("eight (", Due.rules(p, "truck when " + repeated("(", 8) + "1=1" + repeated(")", 8) + ";"), 1);
        fault("truck when " + repeated("(", 9) + "1=1" + repeated(")", 9) + ";", 3, 11 + 8);
        Due.is("four of both", Due.rules(p, "truck when " + repeated("not(", 4) + "1=1" + repeated(")", 4) + ";"), 1);
        fault("truck when " + repeated("not(", 4) + "not 1=1" + repeated(")", 4) + ";", 3, 11 + 16);
        fault("truck when " + repeated("not(", 4) + "(1=1" + repeated(")", 5) + ";", 3, 11 + 16);
        Due.is("closed ones don't count",
            Due.rules(p, "truck when " + repeated("not(not 1=1) and ", 12) + "not (1=1);"), 1);
        Due.is("a closed not does not count",
            Due.rules(p, "truck when (not 1=1 or " + repeated("not ", 7) + "1=1);"), 1);
        fault("truck when (not 1=1 or " + repeated("not ", 8) + "1=1);", 3, 23 + 28);
        Due.is("a not is closed with its bracket",
            Due.rules(p, "truck when not (1=1) and " + repeated("not ", 8) + "1=1;"), 1);
        String deep = repeated("1=2 or 1=1 and (", 8) + "1=2 or 1=1 and 1 < 2 + 3 * 4" + repeated(")", 8);
        Due.is("deep", Due.rules(p, "quake when " + deep + ";"), 1);
        p.cellar(0, 0);
        p.write(0, 0, 0);
        Due.is("deep is so", p.kind(0, 0, 0, 0, 0), 3);
        String longest = "truck when 1=1" + repeated(" ", 585) + ";";
        Due.is("600 bytes", longest.length(), 600);
        Due.is("600 bytes", Due.rules(p, longest), 1);
        String dense = "truck when 1" + repeated("+1", 292) + "<9;";
        Due.is("599 bytes", dense.length(), 599);
        Due.is("many tokens", Due.rules(p, dense), 1);
        Due.is("many tokens", p.kind(0, 0, 0, 0, 0), 0);
    }
}
