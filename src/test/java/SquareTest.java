/** Promises 1 to 13: the square, its DIALS, THE RULES. */
public final class SquareTest extends Check {
    public static void main(String[] args) {
        p01();
        p02();
        p03();
        p04();
        p05();
        p06();
        p07();
        p08();
        p09();
        p10();
        p11();
        p12();
        p13();
        end("SquareTest");
    }

    private static void p01() {
        Run x = new Run();
        is(-1, DialSquare.BAD);
        is(-2, DialSquare.FULL);
        is(-3, DialSquare.NONE);
        is(-4, DialSquare.STATE);
        for (int w = 0; w < 7; w++) is(0, x.many(w));
        is(0, x.state(0));
        is(12, x.state(1));
        is(0, x.state(2));
        is(0, x.state(3));
        is(6, x.state(5));
        for (int c = 0; c < 16; c++) is(6, x.sky(c, 6));
        for (int f = 0; f < 6; f++) for (int w = 0; w < 3; w++) is(0, x.spotOf(f, w));
        for (int i = 0; i < 4; i++) {
            is(-11, x.item(i, 0, 0));
            is(-11, x.taken(i, 0));
        }
        is(NONE, x.again());
        is(1, x.seed(1));
        is(NONE, x.trace(0));
        is(-9, x.row(0, 0));
        is(BAD, x.dialOf(0, 0));
    }

    private static void p02() {
        Run x = new Run();
        for (int kind = 1; kind <= 5; kind++) is(kind - 1, x.dial(kind, 20 * kind - 1, kind, kind));
        for (int k = 0; k < 5; k++) {
            is(k + 1, x.dialOf(k, 0));
            is(20 * k + 19, x.dialOf(k, 1));
            is(k + 1, x.dialOf(k, 2));
            is(k + 1, x.dialOf(k, 3));
            is(0, x.dialOf(k, 4));
        }
        is(5, x.dial(1, 0, 0, 0));
        refuses(x, FULL, () -> x.dial(5, 99, 9, 5));
        refuses(x, BAD, () -> x.dial(1, 100, 0, 0));
    }

    private static void p03() {
        Run x = new Run();
        for (int kind = 1; kind <= 5; kind++) x.dial(kind, 0, 0, 5);
        shadesAre(x, 2, 6, 6, 1, 0);
        x.sky(0, 2);
        shadesAre(x, 2, 8, 8, 1, 0);
        x.sky(0, 15);
        shadesAre(x, 2, 2, 2, 1, 0);
        x.sky(0, 4);
        shadesAre(x, 2, 6, 6, 1, 0);
        x.sky(0, 11);
        shadesAre(x, 2, 4, 4, 1, 0);
        x.sky(0, 12);
        shadesAre(x, 2, 2, 2, 1, 0);
        x.sky(0, 6);
        slipsAre(x, 0, 0, 0, 0, 0);
        x.spot(5, 0, 1);
        slipsAre(x, 0, 0, 0, 1, 1);
        x.spot(5, 0, 4);
        slipsAre(x, 0, 1, 0, 7, 7);
        x.spot(5, 0, 9);
        slipsAre(x, 0, 4, 3, 17, 9);
        x.sky(0, 4);
        slipsAre(x, 0, 5, 4, 19, 9);
        x.change(0, 4, 1);
        x.change(3, 4, 1);
        slipsAre(x, 0, 5, 4, 19, 9);
        for (int i = 0; i < 5; i++) x.chime();
        shadesAre(x, 2, 6, 7, 1, 1);
        x.chime();
        shadesAre(x, 2, 6, 7, 1, 0);
        x.ends(16);
        for (int i = 0; i < 10; i++) x.chime();
        shadesAre(x, 2, 8, 11, 1, 1);
        slipsAre(x, 0, 5, 4, 19, 9);
        p03OfOne();
    }

    /** PAYS, MAY, WILL. */
    private static void p03OfOne() {
        Run x = new Run();
        x.dial(SLIT, 0, 0, 0);
        int[][] lagPridePays = {{0, 0, 9}, {5, 0, 9}, {6, 0, 8}, {6, 9, 17}, {53, 0, 1}, {54, 0, 0}, {99, 0, 0}, {99, 9, 2}};
        for (int[] l : lagPridePays) {
            x.change(0, 1, l[0]);
            x.change(0, 2, l[1]);
            is(l[2], x.dialOf(0, 7));
            is(l[2] > 0 ? 1 : 0, x.dialOf(0, 8));
            is(0, x.dialOf(0, 9));
        }
        x.change(0, 4, 1);
        is(1, x.dialOf(0, 4));
        is(0, x.dialOf(0, 7));
        is(0, x.dialOf(0, 8));
        is(0, x.dialOf(0, 9));
        x.change(0, 4, 0);
        told(x, "low keep;");
        is(2, x.dialOf(0, 7));
        is(0, x.dialOf(0, 8));
        is(1, x.dialOf(0, 9));
        told(x, "slit argue; low keep;");
        is(0, x.dialOf(0, 8));
        is(2, x.dialOf(0, 9));
    }

    private static void shadesAre(Run x, int... shades) {
        for (int k = 0; k < shades.length; k++) is(shades[k], x.dialOf(k, 5));
    }

    private static void slipsAre(Run x, int... slips) {
        for (int k = 0; k < slips.length; k++) is(slips[k], x.dialOf(k, 6));
    }

    private static void p04() {
        Run x = full();
        int[][] whatMost = {{1, 99}, {2, 9}, {3, 5}, {4, 1}};
        for (int[] w : whatMost) {
            int was = x.dialOf(3, w[0]);
            is(was, x.change(3, w[0], w[1]));
            is(w[1], x.dialOf(3, w[0]));
            is(w[1], x.change(3, w[0], 0));
            is(0, x.dialOf(3, w[0]));
        }
        is(5, x.dialOf(3, 0));
        x.change(3, 1, 40);
        x.change(3, 4, 1);
        is(40, x.dialOf(3, 1));
    }

    private static void p05() {
        Run x = full();
        is(LOW, x.remake(2, NOON));
        is(NOON, x.remake(2, SLIT));
        is(SLIT, x.remake(2, SLIT));
        is(SLIT, x.dialOf(2, 0));
        is(2, x.dialOf(2, 2));
    }

    private static void p06() {
        Run x = full();
        is(6, x.sky(15, 15));
        is(15, x.sky(15, 0));
        is(0, x.sky(15, 1));
        is(6, x.sky(0, 3));
        is(6, x.sky(1, 9));
        is(9, x.state(5));
    }

    private static void p07() {
        Run x = full();
        is(1, x.spot(0, 0, 9));
        is(9, x.spot(0, 0, 0));
        is(6, x.spot(4, 1, 9));
        is(9, x.spotOf(4, 1));
        is(0, x.spotOf(4, 0));
        is(0, x.spot(5, 1, 3));
    }

    private static void p08() {
        Run x = square();
        is(1, x.spotOf(0, 0));
        is(0, x.spotOf(0, 1));
        is(2, x.spotOf(1, 1));
        int[] shades = {1, 2, 6, 1, 6, 0};
        for (int f = 0; f < 6; f++) is(shades[f], x.spotOf(f, 2));
        x.spot(2, 0, 4);
        x.change(1, 4, 1);
        is(10, x.spotOf(2, 2));
        x.dial(TALL, 0, 0, 5);
        is(1, x.spotOf(0, 2));
    }

    private static void p09() {
        Run x = full();
        is(12, x.ends(16));
        is(16, x.ends(2));
        is(2, x.ends(1));
        is(1, x.state(1));
        is(1, x.state(3));
        is(1, x.ends(3));
        is(0, x.state(3));
        x.chime();
        refuses(x, STATE, () -> x.ends(1));
        is(3, x.ends(2));
    }

    private static void p10() {
        Run x = square();
        x.chime();
        x.chime();
        x.change(4, 4, 1);
        is(24, x.state(2));
        is(19, x.state(4));
        int lag = x.dialOf(3, 1);
        x.change(1, 1, 8);
        is(2, x.anew());
        is(0, x.state(0));
        is(0, x.state(2));
        is(0, x.state(4));
        is(12, x.state(1));
        is(0, x.dialOf(0, 1));
        is(8, x.dialOf(1, 1));
        is(lag, x.dialOf(3, 1));
        is(0, x.anew());
        x.dial(NOON, 0, 0, 0);
        for (int k = 0; k < 6; k++) x.change(k, 4, 1);
        is(63, x.state(4));
        x.anew();
        is(0, x.state(4));
    }

    private static void p11() {
        Run x = square();
        x.sky(1, 11);
        x.ends(2);
        is(0, x.state(0));
        is(2, x.state(1));
        is(0, x.state(2));
        is(0, x.state(3));
        is(0, x.state(4));
        is(6, x.state(5));
        is(2, x.state(6));
        x.chime();
        is(1, x.state(0));
        is(12, x.state(2));
        is(1, x.state(4));
        is(11, x.state(5));
        is(0, x.state(3));
        x.chime();
        is(1, x.state(3));
        is(3, x.state(4));
        x.ends(16);
        for (int i = 0; i < 14; i++) x.chime();
        is(16, x.state(0));
        is(0, x.state(5));
        is(31, x.state(4));
        is(10, x.state(6));
        x.change(0, 1, 5);
        is(10, x.state(6));
        x.change(0, 1, 6);
        is(6, x.state(6));
    }

    private static void p12() {
        Run x = full();
        is(4, x.many(5));
        is(5, x.feed(0x7878787878787878L, 1));
        is(-100, x.rules());
        is(4, x.feed(0x3b3b3b3b6e6f6f6eL, 4));
        is(10, x.feed(0x3b7065656b20L, 6));
        is(1, x.rules());
        is(0, x.many(5));
        for (int n = 8; n <= 200; n += 8) is(n, x.feed(0x2020202020202020L, 8));
        for (int n = 1; n <= 8; n++) {
            int more = n;
            refuses(x, FULL, () -> x.feed(0, more));
        }
        refuses(x, BAD, () -> x.feed(0, 9));
        is(200, x.many(5));
        is(0, x.rules());
        for (int n = 8; n < 200; n += 8) x.feed(0x2020202020202020L, 8);
        is(197, x.feed(0x2020202020202020L, 5));
        refuses(x, FULL, () -> x.feed(0x2020202020202020L, 4));
        is(200, x.feed(0x2020202020202020L, 3));
        is(0, x.rules());
    }

    private static void p13() {
        Run x = square();
        is(0, x.rules());
        is(0, told(x, "   "));
        is(1, told(x, "dial set;"));
        is(1, told(x, "  tall   if lag>3 argue  ;  "));
        is(3, told(x, "noon keep;slit if(lag<9)set;guild if 3=3 and 0<1 or not sun>2 argue;"));
        is(3, x.many(1));
        is(1, x.dialOf(0, 9));
        is(0, x.dialOf(1, 9));
        is(2, x.dialOf(4, 9));
        p13Faults(x);
        is(3, x.many(1));
        is(0, x.many(5));
        is(1, x.dialOf(0, 9));
        is(0, x.rules());
        is(0, x.many(1));
        is(0, x.dialOf(0, 9));
        p13Kinds(x);
        p13Conditions();
        p13Facts();
        p13Again();
    }

    /** What earlier texts told takes no room from later ones. */
    private static void p13Again() {
        Run x = new Run();
        x.dial(NOON, 0, 0, 0);
        for (int i = 0; i < 9; i++) {
            is(1, told(x, "dial if " + "lag=2 or ".repeat(20) + "lag=0 keep;"));
            is(1, x.dialOf(0, 9));
            is(1, told(x, "dial if " + "lag=0 and ".repeat(18) + "lag=2 keep;"));
            is(0, x.dialOf(0, 9));
        }
    }

    private static void p13Faults(Run x) {
        String[] texts = {"c", "dia set;", "Dial set;", "dials set;", "7 set;", ";"};
        for (String text : texts) is(-100, told(x, text));
        is(-101, told(x, " set;"));
        is(-104, told(x, "dial"));
        is(-106, told(x, "dial  "));
        is(-105, told(x, "dial dial set;"));
        is(-105, told(x, "dial sets;"));
        is(-105, told(x, "dial setz;"));
        is(-105, told(x, "dial seta;"));
        is(-105, told(x, "dial 9set;"));
        is(-105, told(x, "dial 0set;"));
        is(-108, told(x, "dial set"));
        is(-109, told(x, "dial set noon set;"));
        is(-109, told(x, "dial set;;"));
        is(-110, told(x, "dial set; c"));
        is(-110, told(x, "dial set; 123 set;"));
        is(-104, told(x, "dial\tset;"));
        is(-104, told(x, "dial\u00e9set;"));
        is(-108, told(x, "dial if set;"));
        is(-108, told(x, "dial if 12345<3 set;"));
        is(-110, told(x, "dial if 3<00001 set;"));
        is(-110, told(x, "dial if 1 1 set;"));
        is(-112, told(x, "dial if 1 < if set;"));
        is(-108, told(x, "dial if < < 1 set;"));
        is(-112, told(x, "dial if 1 < < set;"));
        is(-112, told(x, "dial if 1 < set;"));
        is(-110, told(x, "dial if 1 not 1 set;"));
        is(-110, told(x, "dial if 1 set;"));
        is(-115, told(x, "dial if 1=1 or set;"));
        is(-116, told(x, "dial if 1=1 and set;"));
        is(-112, told(x, "dial if not set;"));
        is(-109, told(x, "dial if ()set;"));
        is(-112, told(x, "dial if 1=1 5 set;"));
        is(-111, told(x, "dial if 1=1;"));
        is(-111, told(x, "dial if 1=1=1 set;"));
        is(-108, told(x, "dial if and 1=1 set;"));
        is(-111, told(x, "dial if 1=1orset;"));
        is(-115, told(x, "dial if 1=1 or or 1=1 set;"));
        is(-112, told(x, "dial if not lags=1 set;"));
        is(-107, told(x, "dial if) set;"));
        is(-108, told(x, "dial if ) set;"));
        is(-111, told(x, "dial if 1=1) set;"));
        is(-113, told(x, "dial if (1=1 set;"));
        is(-115, told(x, "dial if ((1=1) set;"));
        is(-113, told(x, "dial if ( not"));
        is(-111, told(x, "dial if ((((1=1)))) set;"));
        is(-126, told(x, "dial if (1=1 or ( not  (  (1=1))) and ( 1=1 )) set;"));
        is(-172, told(x, "dial set;".repeat(8) + "low set;"));
        is(-173, told(x, "dial set;".repeat(8) + " ="));
    }

    private static void p13Kinds(Run x) {
        String[] names = {"dial", "noon", "tall", "guild", "low", "slit"};
        int[] under = {31, 1, 2 | 16, 16, 4 | 8, 8};
        for (int i = 0; i < 6; i++) {
            is(1, told(x, names[i] + " keep;"));
            for (int k = 0; k < 5; k++) is(under[i] >> k & 1, x.dialOf(k, 9));
        }
        is(8, told(x, "noon set;".repeat(6) + "noon argue;tall argue;"));
        is(0, x.dialOf(0, 9));
        is(2, x.dialOf(1, 9));
        is(0, x.dialOf(2, 9));
        is(2, told(x, "guild if 1=2 keep; tall argue;"));
        is(2, x.dialOf(4, 9));
    }

    private static void p13Conditions() {
        holds(1, "1=1");
        holds(0, "1=2");
        holds(1, "1<2");
        holds(0, "2<2");
        holds(1, "9999>0");
        holds(0, "2>2");
        holds(1, "0003 = 3");
        holds(1, "1=1 or 1=1 and 1=2");
        holds(0, "(1=1 or 1=1) and 1=2");
        holds(1, "1=2 and 1=1 or 1=1");
        holds(0, "1=2 and (1=1 or 1=1)");
        holds(0, "1=1 and 1=1 and 1=2");
        holds(1, "1=2 or 1=2 or 1=1");
        holds(1, "not 1=2 and 1=1");
        holds(1, "not 1=1 or 1=1");
        holds(0, "not (1=1 or 1=1)");
        holds(0, "not 1=1");
        holds(1, "not not 1=1");
        holds(0, "not not not 1=1");
        holds(1, "not(not(not(1=2)))");
        holds(1, "1=2 or (1=1 and (1=2 or (1=1 and not 2<1)))");
        holds(1, "(1=1)and(1=1)and(((1=1)))");
        holds(1, "1<2or 1=3");
    }

    private static void holds(int want, String condition) {
        Run x = new Run();
        x.dial(NOON, 0, 0, 0);
        is(1, told(x, "dial if " + condition + " keep;"));
        is(want, x.dialOf(0, 9));
    }

    private static void p13Facts() {
        Run x = new Run();
        x.dial(NOON, 0, 0, 0);
        x.dial(NOON, 33, 7, 0);
        x.sky(1, 12);
        is(1, told(x, "dial if lag=33 and pride=7 and number=1 and chime=0 and sun=1 keep;"));
        is(1, x.dialOf(1, 9));
        is(0, x.dialOf(0, 9));
        x.chime();
        is(0, x.dialOf(1, 9));
        is(1, told(x, "dial if chime=1 and sun=3 keep;"));
        is(1, x.dialOf(1, 9));
        is(1, told(x, "dial if lag>pride and pride>number keep;"));
        is(1, x.dialOf(1, 9));
        is(0, x.dialOf(0, 9));
        x.ends(16);
        for (int i = 1; i < 16; i++) x.chime();
        is(1, told(x, "dial if chime=16 and sun=0 keep;"));
        is(1, x.dialOf(1, 9));
    }
}
