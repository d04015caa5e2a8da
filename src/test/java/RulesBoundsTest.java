import java.util.List;

/** THE TAPE and THE RULES at their bounds: section 2 of the document, promises 12 and 13. */
public final class RulesBoundsTest extends Check {
    private static final List<String> KINDS = List.of("dial", "noon", "tall", "guild", "low", "slit");
    private static final List<String> DOES = List.of("set", "keep", "argue");
    private static final List<String> VALUES = List.of("chime", "lag", "pride", "sun", "number", "0", "9999");
    private static final List<String> SIGNS = List.of("<", "=", ">");
    private static final List<String> JOINS = List.of("and", "or");
    private static final List<String> OTHERS = List.of("if", "not", "(", ")", ";", "10000", "00000", "x", "sets", "#", "A");
    private static final long BLANKS = 0x2020202020202020L;

    public static void main(String[] args) {
        feedTakes1To8();
        feedLowestFirst();
        feedTo200();
        feedFull();
        tapeEmpty();
        tapeUsedUp();
        tapeWith200();
        rulesTo8();
        rulesInPlaceOfAll();
        numbersTo9999();
        digitsTo4();
        signs();
        facts();
        namesAndDigits();
        asLongAsTheyGo();
        blanksAlone();
        openTo3();
        nots();
        whatCanStand();
        endOfText();
        faultsFarBehind();
        ninthRule();
        end("RulesBoundsTest");
    }

    private static void feedTakes1To8() {
        says("n bytes (1 to 8) come to THE TAPE, the lowest of eight first: how many it has. BAD; FULL: more than 200.");
        for (Run x : new Run[] {new Run(), full()}) {
            takes(x, 1, 8, n -> x.feed(BLANKS, n));
            for (long eight : new long[] {Long.MIN_VALUE, Long.MAX_VALUE, -1, 0}) {
                for (int n : new int[] {0, 9, FAR[0], FAR[1]}) refuses(x, BAD, () -> x.feed(eight, n));
            }
        }
        Run y = new Run();
        int has = 0;
        for (int n = 1; n < 9; n++) {
            has += n;
            is(has, y.feed(BLANKS, n));
            is(has, y.many(5));
        }
    }

    private static void feedLowestFirst() {
        says("the lowest of eight first");
        Run x = new Run();
        for (int n = 1; n < 9; n++) {
            x.feed(0x3b74657320776f6cL, n);
            is(n == 8 ? 1 : -100 - (n < 3 ? 0 : n < 5 ? n : n < 7 ? 4 : 7), x.rules());
        }
        for (long eight : new long[] {-1, Long.MAX_VALUE, Long.MIN_VALUE, 0}) {
            for (int n = 1; n < 9; n++) {
                is(n, x.feed(eight, n));
                is(-100, x.rules());
            }
        }
        x.feed(0x8020202020202020L, 8);
        is(-107, x.rules());
        x.feed(0x8020202020202020L, 7);
        is(0, x.rules());
    }

    private static void feedTo200() {
        says("THE TAPE takes bytes, 200 at most");
        for (int n = 1; n < 9; n++) {
            for (int has = 200 - n - 1; has <= 200 - n + 1; has++) {
                Run x = blanks(has);
                int more = n;
                if (has + n > 200) refuses(x, FULL, () -> x.feed(BLANKS, more));
                else is(has + n, x.feed(BLANKS, n));
                is(has + n > 200 ? has : has + n, x.many(5));
            }
        }
    }

    /** A TAPE of so many blanks. */
    private static Run blanks(int n) {
        Run x = new Run();
        tape(x, " ".repeat(n));
        return x;
    }

    private static void feedFull() {
        says("BAD; FULL: more than 200.");
        Run x = blanks(200);
        for (int n = 1; n < 9; n++) {
            int more = n;
            refuses(x, FULL, () -> x.feed(BLANKS, more));
        }
        for (int n : new int[] {0, -1, 9, FAR[0], FAR[1]}) refuses(x, BAD, () -> x.feed(BLANKS, n));
        is(200, x.many(5));
        is(0, x.rules());
        is(8, x.feed(BLANKS, 8));
    }

    private static void tapeEmpty() {
        says("TEXT: { KIND DO ; | KIND if COND DO ; }, 8 RULES at most.");
        Run x = square();
        is(0, x.rules());
        is(1, told(x, "dial keep;"));
        is(1, x.dialOf(0, WILL));
        is(0, x.rules());
        is(0, x.many(1));
        is(0, x.dialOf(0, WILL));
        for (int n : new int[] {1, 8, 200}) {
            told(x, "dial keep;");
            is(0, told(x, " ".repeat(n)));
            is(0, x.many(1));
        }
    }

    private static void tapeUsedUp() {
        says("rules() uses it up");
        Run x = square();
        for (String text : new String[] {"dial keep;", "dial keep; ?", "", "   ", "dial"}) {
            told(x, text);
            is(0, x.many(5));
            is(3, x.feed(BLANKS, 3));
            is(0, x.rules());
        }
        Run y = full(), z = full();
        is(4, y.many(5));
        is(-104, y.rules());
        is(0, y.many(5));
        z.rules();
        z.feed(0x6c616964, 4);
        holds(z.all().equals(full().all()));
        holds(!y.all().equals(full().all()));
    }

    private static void tapeWith200() {
        says("THE TAPE takes bytes, 200 at most; rules() uses it up.");
        Run x = square();
        String head = "dial if lag=10", end = " keep;";
        StringBuilder text = new StringBuilder(head);
        while (text.length() + 9 + end.length() <= 200) text.append(" or lag=5");
        while (text.length() + end.length() < 200) text.append(' ');
        text.append(end);
        is(200, text.length());
        is(1, told(x, text.toString()));
        int[] wills = {1, 0, 1, 0, 0};
        for (int k = 0; k < 5; k++) is(wills[k], x.dialOf(k, WILL));
        is(0, x.many(5));
        is(1, told(x, "dial keep;" + " ".repeat(190)));
        is(1, told(x, " ".repeat(190) + "dial keep;"));
        is(-300, told(x, " ".repeat(191) + "dial keep"));
        is(-299, told(x, " ".repeat(189) + "dial keep;="));
        is(-299, told(x, " ".repeat(199) + "z"));
        is(-100, told(x, "z".repeat(200)));
        is(-100, told(x, "9".repeat(200)));
        for (char single : new char[] {'(', ')', ';', '=', '#'}) {
            Run y = new Run();
            is(-100, told(y, String.valueOf(single).repeat(200)));
            is(-108, told(y, "low set;" + String.valueOf(single).repeat(192)));
        }
        is(1, x.dialOf(4, WILL));
        is(1, told(x, "dial if " + "lag=99 or ".repeat(18) + " 3=3 argue;"));
        is(2, x.dialOf(0, WILL));
    }

    private static void rulesTo8() {
        says("THE TAPE tells THE RULES (in place of all): how many; -100 less its FAULT.");
        Run x = one(NOON, 0, 0);
        for (int n = 0; n < 11; n++) {
            int due = n <= 8 ? n : -100 - 8 * 10;
            is(due, told(x, "noon keep;".repeat(n)));
            is(Math.min(n, 8), x.many(1));
        }
        for (int n = 1; n < 9; n++) {
            is(n, told(x, "low keep;".repeat(n - 1) + "noon argue;"));
            is(2, x.dialOf(0, WILL));
        }
        is(8, told(x, "noon argue;" + "noon keep;".repeat(7)));
        is(2, x.dialOf(0, WILL));
        is(8, told(x, "noon if lag>0 argue;" + "noon if 1<0 argue;".repeat(6) + "noon if lag=0 keep;"));
        is(1, x.dialOf(0, WILL));
    }

    private static void rulesInPlaceOfAll() {
        says("THE RULES (in place of all)");
        Run x = square();
        is(8, told(x, "dial keep;".repeat(8)));
        is(1, told(x, "low argue;"));
        is(1, x.many(1));
        is(0, x.dialOf(0, WILL));
        is(2, x.dialOf(2, WILL));
        is(-109, told(x, "dial set;?"));
        is(1, x.many(1));
        is(2, x.dialOf(2, WILL));
        is(-110, told(x, "low argue;no"));
        is(2, x.dialOf(2, WILL));
        is(0, told(x, ""));
        is(0, x.dialOf(2, WILL));
    }

    private static void willBe(int want, Run x, String condition) {
        is(1, told(x, "dial if " + condition + " keep;"));
        is(want, x.dialOf(0, WILL));
    }

    private static void numbersTo9999() {
        says("N are NUMBERS 0 to 9999.");
        Run x = one(NOON, 0, 0);
        willBe(1, x, "0=0000");
        willBe(1, x, "0<1");
        willBe(1, x, "9998<9999");
        willBe(1, x, "9999>9998");
        willBe(1, x, "9999=9999");
        willBe(0, x, "9999<9999");
        willBe(0, x, "0>0");
        willBe(1, x, "lag<9999");
        willBe(1, x, "lag=0");
        willBe(1, x, "1234=1234");
        willBe(0, x, "1234=1243");
        willBe(1, x, "0012=12");
        is(-108, told(x, "dial if 10000>1 keep;"));
        is(-110, told(x, "dial if 1<10000 keep;"));
        is(-108, told(x, "dial if 99999=1 keep;"));
    }

    private static void digitsTo4() {
        says("NUMBERS rows of digits (1 to 4), both as long as they go");
        Run x = one(NOON, 0, 0);
        for (int n = 1; n < 12; n++) {
            is(n <= 4 ? 1 : -110, told(x, "dial if 0=" + "0".repeat(n) + " keep;"));
            is(n <= 4 ? 1 : -108, told(x, "dial if " + "0".repeat(n) + "=0 keep;"));
            is(n <= 4 ? -111 - n : -110, told(x, "dial if 0=" + "7".repeat(n) + " 7 keep;"));
        }
        is(-110, told(x, "dial if 1 1 = 11 keep;"));
        is(-110, told(x, "dial if 0=99999 99"));
    }

    private static void signs() {
        says("SIGN: < | = | >");
        Run x = one(NOON, 0, 0);
        for (int lag = 49; lag < 52; lag++) {
            x.change(0, LAG, lag);
            willBe(lag < 50 ? 1 : 0, x, "lag<50");
            willBe(lag == 50 ? 1 : 0, x, "lag=50");
            willBe(lag > 50 ? 1 : 0, x, "lag>50");
            willBe(lag > 50 ? 1 : 0, x, "50<lag");
            willBe(lag == 50 ? 1 : 0, x, "50=lag");
            willBe(lag < 50 ? 1 : 0, x, "50>lag");
            willBe(lag < 50 ? 0 : 1, x, "not lag<50");
            willBe(lag == 50 ? 0 : 1, x, "not lag=50");
        }
    }

    private static void facts() {
        says("FACTS: the CHIME that goes by; its LAG, its PRIDE, the SUN of that CHIME; its number.");
        Run x = noons(6);
        x.ends(16);
        for (int c = 0; c < 16; c++) x.sky(c, 4 * (c % 4) + 3);
        x.change(5, LAG, 99);
        x.change(5, PRIDE, 9);
        told(x, "dial if number=5 and lag=99 and pride=9 keep; dial if number=0 and lag=0 and pride=0 argue;");
        int[] wills = {2, 0, 0, 0, 0, 1};
        for (int k = 0; k < 6; k++) is(wills[k], x.dialOf(k, WILL));
        Run sun = ruled(one(NOON, 0, 0), "dial if sun=1 keep; dial if sun=2 argue; noon if sun>2 keep; noon if sun<1 argue;");
        for (int v = 0; v < 16; v++) {
            sun.sky(0, v);
            is(v / 4 % 2 == 0 ? 2 : 1, sun.dialOf(0, WILL));
        }
        Run y = ruled(one(NOON, 0, 0), "dial keep;");
        y.ends(16);
        for (int c = 0; c < 16; c++) y.sky(c, 4 * (c % 4) + 3);
        for (int c = 0; c < 17; c++) {
            told(y, "dial if chime=" + c + " and sun=" + c % 4 + " keep;");
            is(1, y.dialOf(0, WILL));
            told(y, "dial if not chime<" + (c + 1) + " or sun>" + c % 4 + " or sun<" + c % 4 + " argue; dial keep;");
            is(1, y.dialOf(0, WILL));
            y.chime();
        }
    }

    private static void namesAndDigits() {
        says("NAMES are rows of letters a to z, NUMBERS rows of digits (1 to 4)");
        says("FAULT: the place (from 0) of the first byte of the first NAME, NUMBER or other byte that can't stand there");
        for (int i = 0; i < 256; i++) {
            Run x = new Run();
            char b = (char) i;
            boolean blank = b == ' ', letter = b >= 'a' && b <= 'z', digit = b >= '0' && b <= '9';
            is(blank ? 0 : -107, told(x, "       " + b));
            is(blank ? 1 : -104, told(x, "low " + b + "keep;"));
            is(blank ? -104 : letter ? -100 : -103, told(x, "low" + b));
            is(blank || digit ? 1 : -109, told(x, "low if 1<" + b + "1 keep;"));
        }
    }

    private static void asLongAsTheyGo() {
        says("both as long as they go; blanks (32) part them, and stand elsewhere as one likes.");
        Run x = one(NOON, 0, 0);
        is(-100, told(x, "dialkeep;"));
        is(-105, told(x, "dial keepset;"));
        is(-105, told(x, "dial iflag=0 keep;"));
        is(-111, told(x, "dial if 0=0andset;"));
        is(-110, told(x, "dial if 0=lagkeep;"));
        is(-108, told(x, "dial if notlag=0 keep;"));
        is(1, told(x, "dial if(0=lag)keep;"));
        is(1, x.dialOf(0, WILL));
        is(1, told(x, "dial if 0=0keep;"));
        is(1, told(x, "dial if not(0=1)and 0<1or 1=2 keep;"));
        is(1, told(x, "  dial  if  (  0  =  lag  )  keep  ;  "));
        is(2, told(x, "dial keep;dial set;"));
        is(2, told(x, " dial keep ; dial set ; "));
    }

    private static void blanksAlone() {
        says("blanks (32) part them");
        Run x = new Run();
        for (int b : new int[] {0, 9, 10, 13, 31, 33, 95, 127, 128, 160, 255}) {
            is(-103, told(x, "low" + (char) b + "keep;"));
            is(-108, told(x, "low keep" + (char) b + ";"));
            is(-109, told(x, "low keep;" + (char) b));
            is(-100, told(x, (char) b + "low keep;"));
        }
        is(1, told(x, "low keep;"));
    }

    private static void openTo3() {
        says("At most 3 \"(\" are open within one another.");
        Run x = one(NOON, 0, 0);
        for (int n = 0; n < 8; n++) {
            String condition = "(".repeat(n) + "lag=0" + ")".repeat(n);
            is(n <= 3 ? 1 : -111, told(x, "dial if " + condition + " keep;"));
            is(n <= 3 ? 1 : -115, told(x, "dial if not " + condition + " keep;"));
            is(n <= 3 ? 1 : -119, told(x, "dial if (1=1)or " + condition + " keep;"));
            is(n <= 2 ? 1 : -122, told(x, "dial if (0=0 or not " + condition + ") keep;"));
        }
        is(1, told(x, "dial if " + "(((lag=0))) and ".repeat(10) + "(((lag=0))) keep;"));
        is(1, x.dialOf(0, WILL));
        is(-121, told(x, "dial if ((1=1) and (((1=1))) keep;"));
        is(1, told(x, "dial if ((1=2) or ((1=2) or (lag=0)) and (lag=0)) keep;"));
        is(1, x.dialOf(0, WILL));
        is(-111, told(x, "dial if ((((((((((((((((((((((((((((((1=1 keep;"));
    }

    private static void nots() {
        says("ONE: { not } ( VALUE SIGN VALUE | \"(\" COND \")\" )");
        for (int n = 0; n < 46; n++) {
            Run x = one(NOON, 0, 0);
            int due = n % 2 == 0 ? 1 : 0;
            willBe(due, x, "not ".repeat(n) + "lag=0");
            if (n < 45) willBe(due, x, "not ".repeat(n) + "(lag=0)");
        }
        Run y = one(NOON, 0, 0);
        willBe(1, y, "0=0 and not 0=1");
        willBe(0, y, "0=0 and not 0=0");
        willBe(1, y, "0=1 or not (0=1 and not 0=1)");
        willBe(0, y, "not (0=0 and not 0=1) or not 0=0");
        willBe(1, y, "0=0 and (0=1 or (0=0 and (0=1 or not 0=1)))");
        willBe(0, y, "0=0 and (0=1 or (0=0 and (0=1 or not 0=0)))");
    }

    /** At each kind of place, each word there is: those that can't stand there are the FAULT, behind the others more must come. */
    private static void whatCanStand() {
        says("or the end (how many bytes there are), if more must come.");
        List<List<String>> one = List.of(List.of("not", "("), VALUES), join = List.of(JOINS, DOES);
        placed("", List.of(KINDS));
        placed("noon", List.of(List.of("if"), DOES));
        placed("noon if", one);
        placed("noon if not", one);
        placed("noon if not not", one);
        placed("noon if 1", List.of(SIGNS));
        placed("noon if lag", List.of(SIGNS));
        placed("noon if lag<", List.of(VALUES));
        placed("noon if lag < 7", join);
        placed("noon if not lag = sun", join);
        placed("noon if 1=1 and", one);
        placed("noon if 1=1 or", one);
        placed("noon if 1=1 or not 1=1", join);
        placed("noon if (", one);
        placed("noon if (((", List.of(List.of("not"), VALUES));
        placed("noon if (((not", List.of(List.of("not"), VALUES));
        placed("noon if ((( 1=1 ) and", one);
        placed("noon if ( 1=1", List.of(JOINS, List.of(")")));
        placed("noon if ( 1=1 )", join);
        placed("noon if (( 1=1 )", List.of(JOINS, List.of(")")));
        placed("noon if ( 1=1 ) and", one);
        placed("noon set; low", List.of(List.of("if"), DOES));
        placed("noon if 1=1 and (1=1) or 1=1", join);
        for (String does : DOES) accepted("noon " + does);
        accepted("noon if 1=1 set");
        accepted("noon set; low if ( 1=1 ) keep");
    }

    private static void placed(String before, List<List<String>> can) {
        Run x = new Run();
        for (List<String> words : List.of(KINDS, DOES, VALUES, SIGNS, JOINS, OTHERS)) {
            for (String word : words) {
                boolean stands = false;
                for (List<String> some : can) stands |= some.contains(word);
                String text = before + " " + word;
                is(-100 - (stands ? text.length() : before.length() + 1), told(x, text));
            }
        }
        is(before.isEmpty() ? 0 : -100 - before.length(), told(x, before));
    }

    /** Behind a DO only ";" can stand, and then the text may end or go on by a KIND. */
    private static void accepted(String before) {
        placed(before, List.of(List.of(";")), before.split(";").length);
        placed(before + ";", List.of(KINDS), -1);
    }

    private static void placed(String before, List<List<String>> can, int rulesBehind) {
        Run x = new Run();
        for (List<String> words : List.of(KINDS, DOES, VALUES, SIGNS, JOINS, OTHERS)) {
            for (String word : words) {
                String text = before + " " + word;
                boolean stands = can.get(0).contains(word);
                int behind = rulesBehind < 0 ? -100 - text.length() : rulesBehind;
                is(stands ? behind : -101 - before.length(), told(x, text));
            }
        }
    }

    /** A text that is cut anywhere: the FAULT is the end, but for a NAME that is cut itself. */
    private static void endOfText() {
        says("FAULT: the place (from 0) of the first byte");
        String text = "low if not ( lag > 1234 or number = 5 ) and chime < 7 argue ;  slit keep;";
        Run x = new Run();
        for (int n = 0; n <= text.length(); n++) {
            String cut = text.substring(0, n);
            int name = n;
            while (name > 0 && Character.isLetter(cut.charAt(name - 1))) name--;
            boolean whole = n == text.length() || name == n || !Character.isLetter(text.charAt(n));
            int due = -100 - (whole ? n : name);
            if (cut.isBlank()) due = 0;
            if (cut.trim().endsWith(";")) due = n == text.length() ? 2 : 1;
            is(due, told(x, cut));
        }
    }

    private static void faultsFarBehind() {
        says("-100 less its FAULT");
        for (int n = 0; n < 200; n++) {
            Run x = new Run();
            is(-100 - n, told(x, " ".repeat(n) + "=" + " ".repeat(199 - n)));
            if (n >= 3) is(-100 - n, told(x, " ".repeat(n - 3) + "low"));
        }
        is(-300, told(new Run(), " ".repeat(197) + "low"));
        is(-300, told(new Run(), "low" + " ".repeat(197)));
    }

    private static void ninthRule() {
        says("(a NUMBER of more digits, the fourth \"(\", the first NAME of the ninth RULE, too)");
        Run x = new Run();
        String eight = "low set;".repeat(8);
        is(8, told(x, eight));
        is(8, told(x, eight + "   "));
        is(-164, told(x, eight + "low set;"));
        is(-166, told(x, eight + "  low set;"));
        is(-165, told(x, eight + " low"));
        for (String word : new String[] {"set", "x", "7", "12345", ";", "(", "#"}) is(-165, told(x, eight + " " + word));
        is(-156, told(x, "low set;".repeat(7) + "set;low set;"));
        is(7, told(x, "low set;".repeat(7)));
        is(7, x.many(1));
    }
}
