/** Promises 41 to 52: sheets, shelves, acts, the trace, and what is kept. */
public final class HostTest extends Check {
    public static void main(String[] args) {
        p41();
        p42();
        p43();
        p44();
        p45();
        p46();
        p47();
        p48();
        p49();
        p50();
        p51();
        p52();
        end("HostTest");
    }

    private static void p41() {
        Run x = full();
        for (int sort = 0; sort < 5; sort++) {
            is(1, x.sheet(2, sort, 40));
            is(1, x.write(2, 39, 1));
            is(1, x.item(2, sort, 39));
            is(1, x.sheet(2, sort, 40));
            is(0, x.item(2, sort, 39));
            is(1, x.sheet(2, sort, 0));
            is(-12, x.item(2, sort, 0));
        }
        for (int n : new int[] {0, 41, FAR[0], FAR[1]}) {
            x.sheet(2, 1, 3);
            is(1, x.sheet(2, -1, n));
            is(-11, x.item(2, 1, 0));
        }
        refuses(x, BAD, () -> x.sheet(4, 0, -1));
        refuses(x, BAD, () -> x.sheet(0, 5, -1));
    }

    private static void p42() {
        int[] values = {0, 1, -1, 127, 128, 255, 300, 32767, 32768, 65536, FAR[0], FAR[1]};
        for (int v : values) {
            Run x = full();
            int[] narrow = {(byte) v, (short) v, v, v, v != 0 ? 1 : 0};
            for (int sort = 0; sort < 5; sort++) {
                x.sheet(3, sort, 2);
                is(1, x.write(3, 1, v));
                is(narrow[sort], x.item(3, sort, 1));
                is(0, x.item(3, sort, 0));
            }
        }
        Run x = full();
        refuses(x, -11, () -> x.write(2, 0, 1));
        refuses(x, -11, () -> x.write(2, -1, 1));
    }

    private static void p43() {
        Run x = full();
        x.sheet(3, 3, 2);
        x.write(3, 0, -12);
        is(-12, x.item(3, 3, 0));
        for (int is = 0; is < 5; is++) {
            x.sheet(3, is, 2);
            for (int sort = 0; sort < 5; sort++) {
                int as = sort;
                if (sort != is) {
                    refuses(x, -13, () -> x.item(3, as, 0));
                    refuses(x, -13, () -> x.item(3, as, 2));
                } else {
                    refuses(x, -12, () -> x.item(3, as, 2));
                    refuses(x, -12, () -> x.item(3, as, -1));
                    refuses(x, -12, () -> x.item(3, as, FAR[0]));
                    refuses(x, -12, () -> x.item(3, as, FAR[1]));
                }
            }
        }
        refuses(x, -11, () -> x.item(2, 0, 0));
        refuses(x, -11, () -> x.item(2, 4, -1));
    }

    /** square() with a sheet of such bytes. */
    private static Run sheeted(int... bytes) {
        return sheeted(square(), bytes);
    }

    private static void p44() {
        Run x = sheeted(1, 99, 3, -1, 6, 0);
        is(0, x.goAll(0, 5, 0));
        is(0, x.goAll(0, 99, 0));
        is(0, x.goAll(0, 1, 1));
        is(0, x.state(0));
        int worth = x.goAll(0, 0, 6);
        is(worth, x.state(2));
        is(3, x.state(0));
        is(5, x.state(4));
        is(11 + 1 + 9 + 1 + 1, worth);
        Run z = sheeted(3, 2, 1);
        z.ends(1);
        is(11, z.goAll(0, 0, 3));
        is(1, z.state(0));
        is(4, z.state(4));
        refuses(z, 0, () -> z.goAll(0, 0, 3));
        is(-12, z.goAll(0, 0, 4));
        Run u = sheeted(5);
        is(11, u.wouldBe(0, 0, 1));
        is(11, u.goAll(0, 0, 1));
        is(16, u.state(4));
        p44Refused();
    }

    private static void p44Refused() {
        Run x = sheeted(1, 3);
        is(-12, x.goAll(0, 0, 20));
        is(2, x.state(0));
        is(5, x.state(4));
        is(11 + 1 + 9 + 1, x.state(2));
        for (int sort = 1; sort < 5; sort++) {
            x.sheet(1, sort, 2);
            refuses(x, -13, () -> x.goAll(1, 0, 1));
            refuses(x, -13, () -> x.goAll(1, 0, 0));
            refuses(x, BAD, () -> x.goAll(1, 0, 21));
        }
        refuses(x, -11, () -> x.goAll(2, 0, 0));
        refuses(x, -11, () -> x.goAll(2, 0, 1));
    }

    private static void p45() {
        Run x = sheeted(1, 3, 99, 2, -1, 0, 6);
        unchanged(x, () -> x.wouldBe(0, 0, 2));
        int worth = x.wouldBe(0, 0, 2);
        is(0, x.wouldBe(0, 5, 0));
        is(0, x.wouldBe(0, 99, 0));
        refuses(x, STATE, () -> x.wouldBe(0, 0, 3));
        refuses(x, STATE, () -> x.wouldBe(0, 0, 20));
        refuses(x, STATE, () -> x.wouldBe(0, 4, 1));
        refuses(x, STATE, () -> x.wouldBe(0, 6, 1));
        refuses(x, STATE, () -> x.wouldBe(0, 6, 2));
        refuses(x, -12, () -> x.wouldBe(0, 7, 1));
        is(worth, x.goAll(0, 0, 2));
        Run y = sheeted(1, 3);
        is(worth, y.wouldBe(0, 0, 2));
        refuses(y, -12, () -> y.wouldBe(0, 0, 3));
        y.ends(2);
        refuses(y, -12, () -> y.wouldBe(0, 0, 3));
        y.ends(1);
        refuses(y, STATE, () -> y.wouldBe(0, 0, 2));
        refuses(y, STATE, () -> y.wouldBe(0, 0, 3));
        for (int sort = 1; sort < 5; sort++) {
            x.sheet(1, sort, 2);
            refuses(x, -13, () -> x.wouldBe(1, 0, 0));
        }
        refuses(x, -11, () -> x.wouldBe(2, 0, 0));
    }

    private static void p46() {
        Run x = full();
        is(4, x.taken(0, 0));
        is(1, x.shelf(0, 0, 2));
        is(2, x.taken(0, 0));
        is(1, x.shelf(0, 1, 1));
        is(3, x.taken(0, 12));
        is(1, x.shelf(0, 1, 2));
        is(-11, x.taken(0, 12));
        is(1, x.shelf(0, 0, 0));
        is(1, x.shelf(0, 2, 99));
        is(-11, x.taken(0, 0));
        is(1, x.shelf(3, 1, 0));
        is(5, x.taken(3, 10));
    }

    private static void p47() {
        Run x = square();
        int[][] under = {{}, {0}, {1, 4}, {4}, {2, 3}, {3}};
        for (int k = 0; k < 5; k++) {
            x.shelf(1, 0, k);
            is(k, x.taken(1, 0));
            for (int as = 1; as < 6; as++) {
                boolean is = false;
                for (int u : under[as]) is |= u == k;
                is(is ? k : -13, x.taken(1, as));
            }
            for (int as = 10; as < 15; as++) is(-13, x.taken(1, as));
        }
        x.remake(4, NOON);
        is(4, x.taken(1, 1));
        is(-13, x.taken(1, 3));
        for (int sort = 0; sort < 5; sort++) {
            x.sheet(0, sort, 7 * sort);
            x.shelf(2, 1, 0);
            for (int as = 0; as < 6; as++) is(-13, x.taken(2, as));
            for (int as = 10; as < 15; as++) is(as - 10 == sort ? 7 * sort : -13, x.taken(2, as));
        }
        x.sheet(0, 0, 2);
        is(28, x.taken(2, 14));
        x.sheet(0, -1, 0);
        is(28, x.taken(2, 14));
        for (int as : new int[] {-1, 6, 9, 15, FAR[0], FAR[1]}) {
            refuses(x, BAD, () -> x.taken(1, as));
            refuses(x, BAD, () -> x.taken(0, as));
        }
        Run y = new Run();
        y.keep();
        y.dial(NOON, 0, 0, 0);
        y.shelf(0, 0, 0);
        y.again();
        is(-11, y.taken(0, 0));
        is(-11, y.taken(0, 10));
        y.dial(LOW, 0, 0, 0);
        is(0, y.taken(0, 4));
    }

    private static void traced(Run x, int... bodies) {
        is(bodies.length, x.many(6));
        for (int i = 0; i < bodies.length; i++) is(bodies[i], x.trace(i));
        is(NONE, x.trace(bodies.length));
        is(NONE, x.trace(-1));
    }

    /** Of each KIND one, the numbers 0 to 4, at the SPOTS 3, 4, 5, 2, 4. */
    private static Run things() {
        Run x = new Run();
        x.dial(NOON, 0, 0, 3);
        x.dial(TALL, 0, 0, 4);
        x.dial(LOW, 0, 0, 5);
        x.dial(GUILD, 0, 0, 2);
        x.dial(SLIT, 0, 0, 4);
        for (int k = 0; k < 4; k++) x.shelf(k, 0, k);
        return x;
    }

    private static void p48() {
        Run x = things();
        is(32, x.act(0, 0, 5));
        traced(x, 20, 10);
        is(47, x.act(0, 1, 5));
        traced(x, 11, 20, 10);
        is(2, x.act(0, 2, 7));
        traced(x, 12);
        is((7 * 4 + 12 + 15) ^ 2, x.act(0, 3, 7));
        traced(x, 13, 11, 20, 10, 12);
        is(27, x.act(1, 0, 7));
        traced(x, 10);
        is(47 ^ 9, x.act(1, 1, 7));
        traced(x, 30, 11, 10);
        is(38 ^ 2, x.act(1, 3, 7));
        traced(x, 13, 30, 11, 10, 12);
        is(-4, x.act(2, 2, -7));
        traced(x, 40, 12);
        is((12 - 2 + 25) ^ 6, x.act(2, 3, 3));
        traced(x, 13, 11, 10, 40, 12);
        is(-5, x.act(1, 0, FAR[1]));
        p48Guild(x);
        p48Slit(x);
        p48Parted(x);
        p48None(x);
    }

    private static void p48Guild(Run x) {
        is((10 - 3) * 4 - 3, x.act(3, 0, 10));
        traced(x, 50, 10);
        is(35 ^ 9, x.act(3, 1, 10));
        traced(x, 30, 11, 50, 10);
        is(0, x.act(3, 2, 10));
        traced(x, 12);
        is(42 - 10, x.act(3, 3, 10));
        traced(x, 51, 13, 30, 11, 50, 10, 12, 30, 11, 50, 10);
    }

    private static void p48Slit(Run x) {
        x.shelf(3, 0, 4);
        is(32, x.act(3, 0, 9));
        traced(x, 10);
        is(-52, x.act(3, 1, 9));
        traced(x, 60, 11, 10);
        is(2 + 12, x.act(3, 2, 9));
        traced(x, 61, 40, 12, 10);
        is(-2 + 12, x.act(3, 2, -9));
        is(-52 ^ 14, x.act(3, 3, 9));
        traced(x, 13, 60, 11, 10, 61, 40, 12, 10);
    }

    /** Whatever would have run behind what was parted by 0 doesn't. */
    private static void p48Parted(Run x) {
        x.change(4, 3, 2);
        is(-15, x.act(3, 2, 9));
        traced(x, 61, 40, 12);
        is(-15, x.act(3, 3, 9));
        traced(x, 13, 60, 11, 10, 61, 40, 12);
        is(36 - 4, x.act(3, 0, 9));
        x.change(3, 3, 1);
        x.shelf(3, 0, 3);
        is(-15, x.act(3, 3, 0));
        traced(x, 51, 13, 30, 11, 50, 10, 12);
        x.change(2, 3, 0);
        is(-15, x.act(2, 2, 0));
        traced(x, 40, 12);
        x.change(3, 3, 0);
        is(0, x.act(3, 2, FAR[0]));
        traced(x, 12);
    }

    private static void p48None(Run x) {
        int[][] none = {{-1, 0}, {4, 0}, {FAR[0], 0}, {FAR[1], 0}, {0, -1}, {0, 4}, {0, FAR[0]}, {0, FAR[1]}, {1, 0}, {2, 0}};
        x.shelf(1, 2, 0);
        x.sheet(0, 2, 3);
        x.shelf(2, 1, 0);
        for (int[] n : none) {
            x.act(0, 3, 1);
            is(5, x.many(6));
            is(0, x.act(n[0], n[1], 1));
            traced(x);
        }
        Run y = new Run();
        y.keep();
        y.dial(NOON, 0, 0, 0);
        y.shelf(0, 0, 0);
        is(12, y.act(0, 0, 0));
        y.again();
        is(0, y.act(0, 0, 0));
        traced(y);
        y.dial(SLIT, 0, 0, 0);
        is(20, y.act(0, 0, 5));
        y.remake(0, GUILD);
        is(8, y.act(0, 0, 5));
    }

    private static void p49() {
        Run x = full();
        traced(x, 51, 13, 30, 11, 50, 10, 12, 30, 11, 50, 10);
    }

    private static void p50() {
        Run x = full();
        int[] many = {5, 2, 1, 1, 2, 4, 11};
        for (int what = 0; what < 7; what++) is(many[what], x.many(what));
    }

    private static void p51() {
        Run x = full();
        String before = x.seen();
        is(1, x.keep());
        holds(before.equals(x.seen()));
        is(1, x.keep());
        is(1, new Run().keep());
    }

    private static void p52() {
        Run none = square();
        refuses(none, NONE, none::again);
        Run x = full();
        x.sky(9, 1);
        x.spot(3, 1, 4);
        x.ends(14);
        x.keep();
        String kept = x.all();
        for (int time = 0; time < 2; time++) {
            p52Change(x);
            holds(!kept.equals(x.all()));
            is(5, x.again());
            holds(kept.equals(x.all()));
        }
        x.chime();
        x.keep();
        x.anew();
        x.again();
        is(2, x.state(0));
        int fit = x.lone(0);
        x.forget();
        x.report(0, 0, 50, 50);
        x.again();
        is(fit, x.lone(0));
        p52Left(x);
    }

    /** Changes all that is kept. */
    private static void p52Change(Run x) {
        x.chime();
        x.dial(NOON, 1, 2, 3);
        x.change(0, 2, 0);
        x.change(1, 1, 90);
        x.change(2, 3, 0);
        x.change(3, 4, 1);
        x.remake(4, NOON);
        x.sky(9, 15);
        x.spot(3, 0, 8);
        x.spot(3, 1, 8);
        x.ends(16);
        x.report(0, 0, 50, 50);
        x.seed(5);
        tape(x, ";");
        x.rules();
        x.rules();
        tape(x, "dial");
    }

    /** THE TAPE, ROWS, SHEETS, SHELVES and THE TRACE stay as they are. */
    private static void p52Left(Run x) {
        x.keep();
        x.feed(0, 1);
        x.prove(1);
        x.sheet(2, 4, 9);
        x.write(2, 8, 1);
        x.shelf(2, 1, 2);
        x.act(0, 1, 1);
        is(5, x.again());
        is(5, x.many(5));
        is(1, x.many(4));
        is(1, x.item(2, 4, 8));
        is(9, x.taken(2, 14));
        is(4, x.many(6));
    }
}
