/** Promises 14 to 40: chimes, what is asked, plans, games, reports, lots, rows. */
public final class AskTest extends Check {
    public static void main(String[] args) {
        p14();
        p15();
        p16();
        p17();
        p18();
        p19();
        p20();
        p21();
        p22();
        p23();
        p24();
        p25();
        p26();
        p27();
        p28();
        p29();
        p30();
        p31();
        p32();
        p33();
        p34();
        p35();
        p36();
        p37();
        p38();
        p39();
        p40();
        end("AskTest");
    }

    /** One noon, LAG 0, that PAYS 9. */
    private static Run one() {
        return noons(1);
    }

    private static void p14() {
        Run x = new Run();
        x.dial(NOON, 10, 3, 0);
        x.dial(NOON, 3, 0, 2);
        x.dial(NOON, 0, 0, 4);
        is(1, x.state(6));
        is(11 + 1, x.chime());
        is(0, x.dialOf(0, 1));
        is(1, x.dialOf(0, 4));
        is(0, x.dialOf(1, 4));
        is(1, x.state(0));
        is(12, x.state(2));
        is(9 + 1, x.chime());
        is(22, x.state(2));
        p14Slips();
        p14Rules();
        Run y = over(full());
        is(1, y.state(3));
        refuses(y, STATE, y::chime);
    }

    private static void p14Slips() {
        Run x = new Run();
        x.dial(GUILD, 60, 0, 0);
        x.dial(LOW, 60, 0, 1);
        x.dial(SLIT, 60, 0, 2);
        x.dial(TALL, 60, 0, 3);
        x.dial(NOON, 60, 0, 4);
        told(x, "dial keep;");
        x.spot(1, 0, 2);
        x.chime();
        int[] lags = {60, 60 + 7 + 8, 60 + 1, 60, 60};
        for (int k = 0; k < 5; k++) is(lags[k], x.dialOf(k, 1));
        x.change(0, 4, 1);
        x.change(4, 4, 1);
        x.sky(1, 0);
        x.chime();
        int[] later = {60, 75 + 21, 62 - 1 + 3, 61, 60};
        for (int k = 0; k < 5; k++) is(later[k], x.dialOf(k, 1));
        x.chime();
        is(99, x.dialOf(1, 1));
    }

    private static void p14Rules() {
        Run x = square();
        told(x, "noon keep; tall if chime=1 argue; tall argue;");
        is(11, x.chime());
        is(4, x.state(4));
        Run y = new Run();
        y.dial(NOON, 54, 0, 0);
        y.dial(NOON, 53, 0, 3);
        is(1, y.chime());
        is(2, y.state(4));
        is(0, y.chime());
        p14Argues();
        p14Pays0();
    }

    /** In THE REST none is told that only argues; told by an ACT, it draws the others near. */
    private static void p14Argues() {
        Run x = ruled(new Run(), "dial argue;");
        x.dial(NOON, 20, 0, 0);
        x.dial(NOON, 10, 0, 1);
        is(0, x.chime());
        is(20, x.dialOf(0, 1));
        is(10, x.dialOf(1, 1));
        x.sheet(0, 0, 1);
        x.write(0, 0, 1);
        is(1, x.goAll(0, 0, 1));
        is(20, x.dialOf(0, 1));
        is(15, x.dialOf(1, 1));
        x.write(0, 0, 2);
        is(1, x.goAll(0, 0, 1));
        is(18, x.dialOf(0, 1));
        x.dial(NOON, 60, 0, 2);
        is(2, x.goAll(0, 0, 1));
        is(38, x.dialOf(2, 1));
        is(17, x.dialOf(0, 1));
    }

    /** What PAYS 0 isn't set right, though it is told; nor what is right already. */
    private static void p14Pays0() {
        Run x = new Run();
        x.dial(NOON, 54, 0, 0);
        x.dial(NOON, 0, 0, 0);
        x.sheet(0, 0, 2);
        x.write(0, 0, 1);
        x.write(0, 1, 2);
        is(0, x.goAll(0, 0, 1));
        is(54, x.dialOf(0, 1));
        is(0, x.dialOf(0, 4));
        x.change(1, 4, 1);
        x.change(1, 1, 7);
        is(0, x.goAll(0, 1, 1));
        is(7, x.dialOf(1, 1));
        is(1, x.dialOf(1, 4));
    }

    private static void p15() {
        Run x = square();
        x.sky(1, 9);
        x.sky(2, 14);
        x.sky(3, 7);
        int[] nWorth = {0, 12, 24, 32, 47, 62};
        for (int n = 0; n < 6; n++) is(nWorth[n], x.on(n));
        is(97, x.on(16));
        x.ends(3);
        is(32, x.on(16));
        int sum = 0;
        for (int i = 0; i < 3; i++) sum += x.chime();
        is(32, sum);
        is(0, x.on(16));
        Run y = full();
        unchanged(y, () -> y.on(16));
    }

    private static void p16() {
        Run x = square();
        for (int k = 0; k < 5; k++) is(k, x.when(k));
        x.change(0, 4, 1);
        refuses(x, NONE, () -> x.when(0));
        is(0, x.when(1));
        x.ends(3);
        refuses(x, NONE, () -> x.when(4));
        is(2, x.when(3));
        told(x, "slit keep; tall argue; low if chime<2 keep;");
        refuses(x, NONE, () -> x.when(1));
        is(NONE, x.when(4));
        is(2, x.when(2));
    }

    private static void p17() {
        Run x = square();
        is(9, x.prideFor(0));
        is(3, x.dialOf(0, 2));
        told(x, "noon if pride=7 set; noon if pride>2 keep;");
        is(7, x.prideFor(0));
        told(x, "noon if not pride<5 keep;");
        is(4, x.prideFor(0));
        x.change(0, 4, 1);
        is(0, x.prideFor(0));
        x.change(0, 4, 0);
        told(x, "noon keep;");
        is(0, x.prideFor(0));
        is(0, over(square()).prideFor(1));
    }

    private static void p18() {
        Run x = new Run();
        x.dial(TALL, 0, 9, 0);
        x.dial(LOW, 0, 0, 1);
        is(0, x.spotFor(1));
        x.spot(0, 0, 5);
        is(2, x.spotFor(1));
        is(1, x.dialOf(1, 3));
        for (int f = 0; f < 5; f++) x.spot(f, 0, 5);
        is(5, x.spotFor(1));
        is(0, over(square()).spotFor(3));
    }

    private static void p19() {
        Run x = new Run();
        x.dial(LOW, 49, 0, 5);
        told(x, "dial keep;");
        refuses(x, NONE, () -> x.late(0));
        for (int c = 0; c < 16; c++) x.sky(c, 4);
        is(1, x.late(0));
        x.ends(1);
        is(1, x.late(0));
        x.change(0, 1, 48);
        refuses(x, NONE, () -> x.late(0));
        x.ends(16);
        is(2, x.late(0));
        x.change(0, 1, 34);
        is(16, x.late(0));
        x.change(0, 1, 33);
        is(NONE, x.late(0));
        x.change(0, 1, 50);
        is(0, x.late(0));
        x.chime();
        x.ends(1);
        is(1, x.late(0));
        x.change(0, 4, 1);
        is(1, x.late(0));
        Run y = new Run();
        y.dial(LOW, 49, 0, 0);
        y.spot(0, 0, 9);
        is(NONE, y.late(0));
    }

    private static void p20() {
        Run x = new Run();
        refuses(x, NONE, x::middle);
        x.dial(NOON, 10, 0, 0);
        is(0, x.middle());
        x.dial(NOON, 20, 0, 0);
        is(0, x.middle());
        x.dial(NOON, 12, 0, 0);
        is(2, x.middle());
        x.change(0, 4, 1);
        is(2, x.middle());
        x.dial(NOON, 19, 0, 0);
        is(2, x.middle());
        x.change(0, 1, 99);
        is(1, x.middle());
    }

    private static void p21() {
        Run x = new Run();
        is(0, x.knots(-1));
        for (int lag : new int[] {0, 10, 5, 30, 36}) x.dial(NOON, lag, 0, 0);
        is(3, x.knots(-1));
        is(7, x.knots(0));
        is(7, x.knots(1));
        is(7, x.knots(2));
        is(8, x.knots(3));
        is(16, x.knots(4));
        x.change(2, 4, 1);
        is(4, x.knots(-1));
        is(0, x.knots(2));
        is(1, x.knots(0));
        is(2, x.knots(1));
        x.change(3, 4, 1);
        is(3, x.knots(-1));
        x.change(3, 4, 0);
        x.change(2, 4, 0);
        x.change(2, 1, 4);
        is(2, x.knots(1));
        is(5, x.knots(2));
        int[] chain = {20, 0, 15, 5, 10};
        for (int k = 0; k < 5; k++) x.change(k, 1, chain[k]);
        is(1, x.knots(-1));
        for (int k = 0; k < 5; k++) is(31, x.knots(k));
        for (int k = 0; k < 5; k++) x.change(k, 4, 1);
        is(0, x.knots(-1));
    }

    private static void p22() {
        Run x = new Run();
        is(0, x.seats(0, 0));
        is(0, x.seats(99, 1));
        x.spot(0, 1, 3);
        x.spot(1, 1, 5);
        x.spot(2, 1, 3);
        is(6, x.seats(0, 0));
        is(5, x.seats(0, 1));
        x.spot(0, 0, 2);
        is(5, x.seats(1, 0));
        is(2, x.seats(1, 1));
        is(6, x.seats(2, 0));
        is(5, x.seats(2, 1));
        x.dial(TALL, 0, 0, 1);
        x.change(0, 4, 1);
        is(5, x.seats(5, 0));
        is(6, x.seats(6, 0));
        x.sky(0, 0);
        is(5, x.seats(7, 0));
        x.spot(5, 1, 9);
        is(15, x.seats(8, 0));
        is(37, x.seats(8, 1));
        x.spot(3, 1, 3);
        is(5 + 3 + 9, x.seats(7, 0));
        is(2 + 8 + 32, x.seats(7, 1));
        for (int f = 0; f < 6; f++) x.spot(f, 0, 1);
        is(0, x.seats(0, 0));
        is(0, x.seats(0, 1));
        Run y = new Run();
        y.spot(4, 1, 4);
        y.spot(5, 1, 4);
        is(16, y.seats(0, 1));
    }

    private static void p23() {
        Run x = square();
        x.sky(1, 5);
        int[] most = {0, 14, 26, 39, 53};
        for (int n = 0; n < 5; n++) is(most[n], x.best(n));
        x.ends(2);
        is(26, x.best(4));
        is(14, over(square()).best(4) + 14);
        is(9, one().best(4));
        is(0, ruled(one(), "dial keep;").best(2));
        is(0, new Run().best(4));
        Run y = full();
        unchanged(y, () -> y.best(4));
        p23Argues();
    }

    /** Whoever argues draws near those next to it, but for who is right, or so near that half is 0. */
    private static void p23Argues() {
        Run x = ruled(new Run(), "dial argue;");
        x.dial(NOON, 10, 0, 2);
        x.dial(NOON, 20, 0, 3);
        x.dial(NOON, 30, 0, 1);
        x.dial(NOON, 11, 0, 2);
        x.dial(NOON, 40, 0, 4);
        is(3 + 2, x.best(1));
        is(2, x.ith(1, 0));
        x.sheet(0, 0, 1);
        x.write(0, 0, 1);
        is(2 + 2, x.goAll(0, 0, 1));
        int[] lags = {10, 15, 20, 11, 40};
        for (int k = 0; k < 5; k++) is(lags[k], x.dialOf(k, 1));
        x.change(0, 4, 1);
        x.write(0, 0, 2);
        is(2 + 2, x.goAll(0, 0, 1));
        int[] later = {10, 15, 20, 13, 28};
        for (int k = 0; k < 5; k++) is(later[k], x.dialOf(k, 1));
    }

    private static void p24() {
        Run x = square();
        x.sky(1, 5);
        int[] first = {3, 4, -99, 2};
        for (int i : new int[] {0, 1, 3}) is(first[i], x.ith(4, i));
        is(0, one().ith(2, 0));
        is(1, one().ith(2, 1));
        refuses(x, NONE, () -> x.ith(3, 3));
        refuses(x, NONE, () -> x.ith(0, 0));
        x.ends(2);
        is(NONE, x.ith(4, 2));
        is(NONE, over(square()).ith(1, 0));
    }

    private static void p25() {
        Run x = square();
        x.sky(1, 5);
        int[] ways = {1, 1, 4, -99, 1};
        for (int n : new int[] {0, 1, 2, 4}) is(ways[n], x.ways(n));
        is(1, one().ways(1));
        is(3, one().ways(2));
        is(15, one().ways(4));
        Run y = ruled(one(), "dial keep;");
        is(8, y.ways(3));
        is(8, y.ways(3));
        is(4, y.ways(2));
        is(1, new Run().ways(4));
        is(1, over(square()).ways(4));
    }

    private static void p26() {
        Run x = square();
        is(0, x.order(4, 0));
        is(1, x.order(4, 2));
        is(2, x.order(4, 3));
        is(3, x.order(3, 22));
        is(4, x.order(4, 15));
        refuses(x, NONE, () -> x.order(4, 31));
        refuses(x, NONE, () -> x.order(0, 2));
        refuses(x, NONE, () -> x.order(2, 22));
        x.change(1, 4, 1);
        is(0, x.order(0, 2));
        is(2, x.order(2, 22));
        told(x, "noon keep;");
        is(NONE, x.order(4, 1));
        is(BAD, new Run().order(1, 1));
        is(NONE, over(square()).order(4, 2));
        Run y = new Run();
        for (int k = 0; k < 6; k++) y.dial(NOON, 0, 0, 0);
        is(NONE, y.order(1, 63));
        is(BAD, y.order(1, 64));
    }

    private static void p27() {
        Run x = square();
        refuses(x, NONE, () -> x.bars(4, 31));
        refuses(x, NONE, () -> x.bars(1, 31));
        refuses(x, NONE, () -> x.bars(0, 0));
        is(0, x.bars(0, 31));
        is(2, x.bars(0, 20));
        told(x, "tall keep; low if number=2 and chime<2 keep;");
        is(1, x.bars(4, 31));
        is(4, x.bars(4, 16 + 8));
        is(NONE, x.bars(4, 13));
        is(2, x.bars(2, 13));
        is(NONE, x.bars(3, 13));
    }

    private static void p28() {
        Run x = square();
        x.sky(1, 5);
        is(14, x.game(1));
        is(15, x.game(2));
        is(28, x.game(4));
        is(9, one().game(1));
        is(9, one().game(2));
        is(0, over(square()).game(3));
        is(0, new Run().game(4));
        x.ends(1);
        is(14, x.game(4));
        Run y = full();
        unchanged(y, () -> y.game(4));
        unchanged(y, () -> y.play(4));
    }

    private static void p29() {
        Run x = square();
        x.sky(1, 5);
        is(4, x.play(1));
        is(4, x.play(2));
        is(4, x.play(4));
        is(1, one().play(1));
        is(0, new Run().play(4));
        is(0, ruled(one(), "dial keep;").play(3));
        Run y = over(square());
        refuses(y, NONE, () -> y.play(1));
        refuses(y, BAD, () -> y.play(0));
    }

    private static void p30() {
        Run x = full();
        refuses(x, BAD, () -> x.report(0, 0, 5, 4));
        is(1, x.report(0, 1, 0, 0));
        is(2, x.report(15, 0, 99, 99));
        is(3, x.report(15, 1, 0, 99));
        is(4, x.report(15, 1, 0, 99));
        is(5, x.report(15, 1, 0, 99));
        refuses(x, FULL, () -> x.report(0, 0, 0, 0));
        refuses(x, BAD, () -> x.report(0, 0, 1, 0));
        is(6, x.many(3));
    }

    private static void p31() {
        Run x = full();
        is(1, x.forget());
        is(0, x.many(3));
        is(0, x.forget());
        for (int r = 0; r < 6; r++) is(r, x.report(0, 0, 7, 7));
        is(0, x.lone(0));
        is(6, x.forget());
        is(500, x.lone(0));
    }

    /** As many LONE DIALS FIT; the first of them; all REPORTS are then forgotten. */
    private static void fit(Run x, int many, int kind, int shade, int lag) {
        is(many, x.lone(0));
        is(kind, x.lone(1));
        is(shade, x.lone(2));
        is(lag, x.lone(3));
        x.forget();
    }

    private static void p32() {
        Run x = new Run();
        fit(x, 500, NOON, 0, 0);
        x.report(0, 0, 30, 39);
        fit(x, 50, NOON, 0, 30);
        x.report(1, 1, 6, 6);
        fit(x, 200, TALL, 0, 0);
        x.report(5, 1, 30, 30);
        x.report(6, 1, 37, 99);
        fit(x, 100, GUILD, 0, 0);
        x.report(5, 1, 3, 3);
        fit(x, 100, SLIT, 0, 0);
        x.report(1, 0, 9, 9);
        fit(x, 6, LOW, 5, 0);
        x.report(1, 0, 84, 84);
        x.report(2, 0, 88, 88);
        fit(x, 1, TALL, 9, 80);
        x.report(15, 0, 99, 99);
        x.report(0, 0, 0, 0);
        fit(x, 12, LOW, 4, 0);
        x.ends(1);
        for (int c = 0; c < 15; c++) x.sky(c, 0);
        x.report(15, 1, 99, 99);
        fit(x, 200, TALL, 0, 0);
        x.sky(0, 15);
        x.report(1, 1, 2, 2);
        x.report(2, 1, 10, 10);
        fit(x, 200, TALL, 0, 0);
        x.sky(0, 4);
        x.sky(1, 8);
        x.report(1, 1, 6, 6);
        x.report(2, 1, 10, 10);
        fit(x, 200, TALL, 0, 0);
        x.report(0, 0, 5, 5);
        is(0, x.lone(0));
        for (int what = 1; what < 4; what++) {
            int w = what;
            refuses(x, NONE, () -> x.lone(w));
        }
        Run y = ruled(one(), "dial set;");
        y.report(15, 0, 99, 99);
        int many = y.lone(0);
        y.change(0, 3, 5);
        y.chime();
        is(many, y.lone(0));
    }

    private static void p33() {
        Run x = new Run();
        refuses(x, NONE, x::liar);
        x.report(0, 0, 0, 0);
        refuses(x, NONE, x::liar);
        x.report(0, 0, 10, 10);
        is(0, x.liar());
        x.report(1, 0, 10, 10);
        is(0, x.liar());
        x.forget();
        x.report(0, 0, 10, 10);
        x.report(0, 0, 0, 0);
        is(0, x.liar());
        x.forget();
        x.report(0, 0, 0, 0);
        x.report(1, 1, 0, 99);
        x.report(0, 0, 90, 90);
        is(0, x.liar());
        x.forget();
        x.report(0, 0, 0, 0);
        x.report(0, 0, 0, 5);
        x.report(0, 0, 10, 10);
        is(2, x.liar());
        x.report(1, 1, 50, 50);
        refuses(x, NONE, x::liar);
        x.forget();
        x.report(3, 1, 0, 99);
        x.report(0, 0, 5, 5);
        is(1, x.liar());
    }

    private static void p34() {
        Run x = full();
        is(77, x.seed(FAR[0]));
        is(FAR[0], x.seed(FAR[1]));
        is(FAR[1], x.seed(0));
        is(0, x.seed(1));
    }

    private static void p35() {
        Run x = square(), y = square();
        int z = -1234567;
        x.seed(z);
        y.sheet(0, 0, 1);
        for (int i = 0; i < 12; i++) {
            z = z * 1103515245 + 12345;
            y.write(0, 0, (z >>> 16) % 6);
            is(y.goAll(0, 0, 1), x.lot());
            is(y.state(4), x.state(4));
            is(y.state(2), x.state(2));
            is(i + 1, x.state(0));
        }
        refuses(x, STATE, x::lot);
        is(z, x.seed(1));
    }

    private static void p36() {
        is(3, new Run().times(3, 0));
        is(0, new Run().times(3, 1));
        Run x = one();
        x.ends(1);
        int z = x.seed(1), paid = 0;
        for (int i = 0; i < 40; i++) {
            z = z * 1103515245 + 12345;
            paid += (z >>> 16) % 2;
        }
        is(paid, x.times(40, 9));
        is(paid, x.times(40, 1));
        is(40, x.times(40, 0));
        is(0, x.times(40, 10));
        is(1, x.seed(1));
        Run y = full();
        unchanged(y, () -> y.times(40, 30));
        is(0, y.times(1, 999));
        is(2, over(square()).times(2, 0));
        is(0, over(square()).times(2, 1));
        p36All();
    }

    /** Each time begins as it is now, and goes to the END. */
    private static void p36All() {
        Run x = square(), y = square();
        x.seed(99);
        y.seed(99);
        int most = 0;
        for (int i = 0; i < 5; i++) {
            int worth = 0;
            y.keep();
            while (y.state(3) == 0) worth += y.lot();
            int z = y.seed(0);
            y.again();
            y.seed(z);
            if (worth >= 60) most++;
        }
        is(most, x.times(5, 60));
        is(99, x.seed(1));
    }

    private static void p37() {
        Run x = square();
        x.sky(1, 5);
        is(4, x.prove(4));
        is(4, x.many(4));
        is(2, x.prove(2));
        is(2, x.many(4));
        x.ends(1);
        is(1, x.prove(4));
        is(0, x.prove(0));
        is(0, x.many(4));
        x.prove(1);
        x.chime();
        is(0, x.prove(4));
        is(0, x.many(4));
        is(1, x.state(0));
    }

    private static void p38() {
        Run x = square();
        x.sky(1, 5);
        refuses(x, -9, () -> x.row(0, 0));
        x.prove(4);
        int[][] rows = {{3, 11, 4}, {4, 14, 12}, {-1, -1, -1}, {2, -1, 15}};
        int worth = 0;
        for (int k = 0; k < 4; k++) {
            for (int w = 0; w < 3; w++) if (rows[k][w] >= 0) is(rows[k][w], x.row(k, w));
            is(x.ith(4, k), x.row(k, 0));
            worth += x.row(k, 1);
        }
        is(53, worth);
    }

    private static void p39() {
        Run x = square();
        x.prove(2);
        int was = x.row(1, 2);
        is(was, x.alterRow(1, 2, FAR[0]));
        is(FAR[0], x.alterRow(1, 2, was));
        is(was, x.row(1, 2));
        x.alterRow(0, 1, -9);
        is(-9, x.row(0, 1));
    }

    private static void p40() {
        Run x = square();
        is(0, x.judge());
        x.sky(1, 5);
        x.prove(4);
        is(0, x.judge());
        for (int k = 0; k < 4; k++) {
            for (int w = 0; w < 3; w++) {
                int was = x.row(k, w);
                x.alterRow(k, w, was + 64);
                is(k + 1, x.judge());
                x.alterRow(k, w, -1);
                is(k + 1, x.judge());
                x.alterRow(k, w, was);
                is(0, x.judge());
            }
        }
        x.alterRow(0, 0, 6);
        is(1, x.judge());
        x.alterRow(0, 0, 5);
        x.alterRow(0, 2, 16);
        is(2, x.judge());
        x.alterRow(0, 2, 4);
        x.alterRow(0, 0, 3);
        x.ends(2);
        is(3, x.judge());
        x.ends(12);
        is(0, x.judge());
        is(0, x.state(0));
        x.chime();
        is(1, x.judge());
        x.prove(1);
        over(x);
        is(1, x.judge());
    }
}
