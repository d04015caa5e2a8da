/** Each call where there is nothing, where there is as much as can be, and where it is OVER. */
public final class EmptyFullTest extends Check {
    public static void main(String[] args) {
        nothing();
        noDialsButChimes();
        noDialsButRest();
        sixDials();
        sixDialsPlayed();
        noReports();
        sixReports();
        noRules();
        eightRules();
        emptyShelves();
        nothingKept();
        overAsked();
        overPlanned();
        overGone();
        overAndOn();
        overAt16();
        end("EmptyFullTest");
    }

    private static void nothing() {
        says("No DIALS, RULES, REPORTS; nothing is kept.");
        Run x = new Run();
        int[] states = {0, 12, 0, 0, 0, 6, 0};
        for (int what = 0; what < 7; what++) {
            is(0, x.many(what));
            is(states[what], x.state(what));
        }
        for (int c = 0; c < 16; c++) is(6, x.sky(c, 6));
        for (int f = 0; f < 6; f++) for (int what = 0; what < 3; what++) is(0, x.spotOf(f, what));
        for (int i = 0; i < 4; i++) {
            int h = i;
            refuses(x, NOTHING, () -> x.item(h, 0, 0));
            refuses(x, NOTHING, () -> x.write(h, 0, 0));
            refuses(x, NOTHING, () -> x.goAll(h, 0, 0));
            refuses(x, NOTHING, () -> x.wouldBe(h, 0, 0));
            refuses(x, NOTHING, () -> x.taken(h, 0));
            asks(x, 0, () -> x.act(h, 0, 1));
        }
        is(1, x.seed(1));
        is(500, x.lone(0));
        refuses(x, NONE, x::again);
        refuses(x, NONE, () -> x.trace(0));
        refuses(x, -9, () -> x.row(0, 0));
        refuses(x, -9, () -> x.alterRow(0, 0, 0));
        asks(x, 0, x::judge);
        asks(x, 0, x::rules);
        asks(x, 0, x::forget);
        asks(x, 0, x::anew);
    }

    private static void noDialsButChimes() {
        says("NONE: there are no DIALS.");
        Run x = new Run();
        for (int k : new int[] {0, 1, 5, -1}) {
            refuses(x, BAD, () -> x.dialOf(k, 0));
            refuses(x, BAD, () -> x.change(k, 1, 0));
            refuses(x, BAD, () -> x.remake(k, 1));
            refuses(x, BAD, () -> x.when(k));
            refuses(x, BAD, () -> x.prideFor(k));
            refuses(x, BAD, () -> x.spotFor(k));
            refuses(x, BAD, () -> x.late(k));
            refuses(x, BAD, () -> x.shelf(0, 0, k));
            if (k >= 0) refuses(x, BAD, () -> x.knots(k));
        }
        refuses(x, NONE, x::middle);
        asks(x, 0, () -> x.knots(-1));
        asks(x, 0, () -> x.seats(0, 1));
        asks(x, 0, () -> x.on(16));
        for (int c = 0; c < 12; c++) is(0, c % 2 == 0 ? x.chime() : x.lot());
        refuses(x, STATE, x::chime);
        refuses(x, STATE, x::lot);
        is(12, x.anew());
    }

    private static void noDialsButRest() {
        says("No DIALS");
        Run x = sheeted(new Run(), 0, 1, 0);
        for (int n = 0; n < 5; n++) {
            int steps = n;
            asks(x, 0, () -> x.best(steps));
            asks(x, 1, () -> x.ways(steps));
            asks(x, steps == 4 ? 0 : NONE, () -> x.ith(steps, 3));
            asks(x, 0, () -> x.order(steps, 0));
            refuses(x, BAD, () -> x.order(steps, 1));
            refuses(x, NONE, () -> x.bars(steps, 0));
            refuses(x, BAD, () -> x.bars(steps, 1));
            if (n > 0) asks(x, 0, () -> x.game(steps));
            if (n > 0) asks(x, 0, () -> x.play(steps));
        }
        asks(x, 40, () -> x.times(40, 0));
        asks(x, 0, () -> x.times(40, 1));
        asks(x, 0, () -> x.wouldBe(0, 0, 1));
        refuses(x, STATE, () -> x.wouldBe(0, 1, 1));
        is(0, x.goAll(0, 0, 3));
        is(2, x.state(0));
        is(4, x.prove(4));
        for (int k = 0; k < 4; k++) for (int what = 0; what < 3; what++) is(0, x.row(k, what));
        is(0, x.judge());
        x.alterRow(2, 0, 1);
        is(3, x.judge());
        is(1, x.keep());
        is(0, x.again());
        is(1, told(x, "dial keep;"));
    }

    private static void sixDials() {
        says("DIALS, 6 at most");
        Run x = noons(6);
        refuses(x, FULL, () -> x.dial(NOON, 0, 0, 0));
        for (int k : new int[] {5, 6}) {
            int due = k == 5 ? 0 : BAD;
            is(k == 5 ? NOON : BAD, x.tried(() -> x.dialOf(k, 0)));
            is(due, x.tried(() -> x.change(k, LAG, 50)));
            is(k == 5 ? NOON : BAD, x.tried(() -> x.remake(k, LOW)));
            asks(x, k == 5 ? 5 : BAD, () -> x.when(k));
            asks(x, k == 5 ? 9 : BAD, () -> x.prideFor(k));
            asks(x, due, () -> x.spotFor(k));
            asks(x, k == 5 ? NONE : BAD, () -> x.late(k));
            asks(x, k == 5 ? 63 : BAD, () -> x.knots(k));
            is(k == 5 ? 1 : BAD, x.tried(() -> x.shelf(0, 0, k)));
        }
        asks(x, 0, x::middle);
        asks(x, 1, () -> x.knots(-1));
        asks(x, 15, () -> x.state(6));
        asks(x, 6 * 9 + 12 * 7, () -> x.on(16));
        is(9 + 7, x.chime());
        is(1, x.state(4));
    }

    private static void sixDialsPlayed() {
        says("(of such as there are)");
        Run x = noons(6);
        asks(x, 4, () -> x.order(4, 60));
        refuses(x, NONE, () -> x.order(4, 63));
        refuses(x, BAD, () -> x.order(4, 64));
        asks(x, NONE, () -> x.bars(4, 63));
        refuses(x, BAD, () -> x.bars(4, 64));
        asks(x, 360, () -> x.ways(4));
        asks(x, 64, () -> x.best(4));
        asks(x, 28 + 2 * 9, () -> x.game(4));
        asks(x, 1, () -> x.play(4));
        for (int k = 0; k < 5; k++) x.change(k, RIGHT, 1);
        asks(x, 6, () -> x.play(1));
        asks(x, 6, () -> x.ith(1, 0));
        for (int k = 0; k < 5; k++) x.change(k, RIGHT, 0);
        sheeted(x, 6, 7);
        is(16, x.tried(() -> x.wouldBe(0, 0, 1)));
        refuses(x, STATE, () -> x.wouldBe(0, 1, 1));
        is(16, x.goAll(0, 0, 2));
        is(1, x.state(0));
        is(32, x.state(4));
        x.keep();
        is(6, x.again());
        is(6, x.many(0));
    }

    private static void noReports() {
        says("NONE: some FIT; or there is no such REPORT.");
        Run x = square();
        int[] first = {500, 1, 0, 0};
        for (int what = 0; what < 4; what++) {
            int w = what;
            asks(x, first[w], () -> x.lone(w));
        }
        refuses(x, NONE, x::liar);
        asks(x, 0, x::forget);
    }

    private static void sixReports() {
        says("A REPORT (6 at most)");
        Run x = square();
        for (int r = 0; r < 6; r++) is(r, x.report(r, 0, 0, r == 5 ? 0 : 99));
        refuses(x, FULL, () -> x.report(0, 0, 0, 0));
        refuses(x, BAD, () -> x.report(16, 0, 0, 0));
        is(NONE, x.liar());
        x.keep();
        is(6, x.forget());
        for (int r = 0; r < 6; r++) is(r, x.report(0, 0, r == 5 ? 1 : 0, r == 5 ? 1 : 0));
        asks(x, 5, x::liar);
        is(0, x.lone(0));
        x.again();
        is(6, x.many(3));
        is(NONE, x.liar());
        refuses(x, FULL, () -> x.report(0, 0, 0, 0));
        is(6, x.forget());
        is(0, x.report(0, 0, 0, 0));
        for (int r = 0; r < 6; r++) sixReportsKept(r);
    }

    /** One of six tells all; it is kept by what it is behind, what it asks, LEAST and MOST. */
    private static void sixReportsKept(int which) {
        int[][] told = {{0, 0, 30, 30, 50, 1}, {15, 1, 10, 10, 100, 5}, {1, 0, 17, 17, 3, 4}, {0, 0, 90, 99, 50, 1}};
        for (int[] t : told) {
            Run x = new Run();
            for (int r = 0; r < 6; r++) x.report(r == which ? t[0] : 0, r == which ? t[1] : 0, r == which ? t[2] : 0, r == which ? t[3] : 99);
            x.keep();
            x.forget();
            for (int r = 0; r < 6; r++) x.report(7, 1 - t[1], 50, 50);
            x.again();
            is(t[4], x.lone(0));
            is(t[5], x.lone(1));
        }
    }

    private static void noRules() {
        says("set (if no RULE tells), keep, or argue");
        Run x = square();
        for (int k = 0; k < 5; k++) is(0, x.dialOf(k, WILL));
        for (int k = 0; k < 5; k++) is(1, x.dialOf(k, MAY));
        is(1, told(x, "noon if 1=0 keep;"));
        for (int k = 0; k < 5; k++) is(0, x.dialOf(k, WILL));
        is(1, told(x, "guild keep;"));
        for (int k = 0; k < 5; k++) is(k == 4 ? 1 : 0, x.dialOf(k, WILL));
        is(0, x.rules());
        for (int k = 0; k < 5; k++) is(0, x.dialOf(k, WILL));
    }

    private static void eightRules() {
        says("the first of THE RULES whose KIND is its or above it, and whose condition holds, tells it.");
        Run x = square();
        String[] eight = {
            "slit if 1=0 set;", "low if lag>5 argue;", "guild if number=3 set;", "tall if number=4 keep;", "tall argue;", "noon if lag<10 set;",
            "noon keep;", "dial argue;"};
        is(8, told(x, String.join("", eight)));
        int[] due = {1, 2, 2, 2, 1};
        for (int k = 0; k < 5; k++) is(due[k], x.dialOf(k, WILL));
        x.keep();
        is(-172, told(x, "dial set;".repeat(12)));
        is(8, x.many(1));
        is(0, x.rules());
        for (int k = 0; k < 5; k++) is(0, x.dialOf(k, WILL));
        x.again();
        is(8, x.many(1));
        for (int k = 0; k < 5; k++) is(due[k], x.dialOf(k, WILL));
    }

    private static void emptyShelves() {
        says("or nothing (at first)");
        Run x = full();
        for (int shelf = 0; shelf < 4; shelf++) {
            int s = shelf;
            x.shelf(s, 2, 0);
            for (int as : new int[] {0, 1, 2, 3, 4, 5, 10, 11, 12, 13, 14}) refuses(x, NOTHING, () -> x.taken(s, as));
            for (int as : new int[] {-1, 6, 9, 15}) refuses(x, BAD, () -> x.taken(s, as));
            for (int act = 0; act < 4; act++) {
                is(0, x.act(s, act, 7));
                is(0, x.many(6));
                is(NONE, x.trace(0));
            }
        }
    }

    private static void nothingKept() {
        says("NONE: nothing is kept.");
        Run x = full(), y = square();
        refuses(y, NONE, y::again);
        y.chime();
        refuses(y, NONE, y::again);
        is(1, y.keep());
        asks(y, 5, y::again);
        is(5, x.again());
        x.anew();
        is(5, x.again());
        asks(x, 5, x::again);
        Run none = new Run();
        none.keep();
        asks(none, 0, none::again);
    }

    private static void overAsked() {
        says("from END on it is OVER.");
        Run x = over(full());
        is(2, x.state(0));
        is(1, x.state(3));
        is(6, x.state(5));
        refuses(x, STATE, x::chime);
        refuses(x, STATE, x::lot);
        for (int n : new int[] {0, 1, 16}) asks(x, 0, () -> x.on(n));
        for (int k = 0; k < 5; k++) {
            int dial = k;
            refuses(x, NONE, () -> x.when(dial));
            asks(x, 0, () -> x.prideFor(dial));
            asks(x, 0, () -> x.spotFor(dial));
            asks(x, NONE, () -> x.late(dial));
        }
        x.change(3, LAG, 50);
        asks(x, 2, () -> x.late(3));
        x.change(3, LAG, 49);
        asks(x, NONE, () -> x.late(3));
        asks(x, x.middle(), x::middle);
        holds(x.middle() >= 0);
        holds(x.knots(-1) > 0);
        asks(x, 40, () -> x.times(40, 0));
        asks(x, 0, () -> x.times(40, 1));
    }

    private static void overPlanned() {
        says("(fewer, if it is OVER)");
        Run x = over(full());
        int right = x.state(4);
        holds(right != 0 && right != 31);
        for (int n = 0; n < 5; n++) {
            int steps = n;
            asks(x, 0, () -> x.best(steps));
            asks(x, 1, () -> x.ways(steps));
            refuses(x, NONE, () -> x.ith(steps, 0));
            asks(x, 0, () -> x.order(steps, right));
            refuses(x, NONE, () -> x.order(steps, 31));
            refuses(x, NONE, () -> x.bars(steps, right));
            asks(x, Integer.numberOfTrailingZeros(~right), () -> x.bars(steps, 31));
            if (n > 0) asks(x, 0, () -> x.game(steps));
            if (n > 0) refuses(x, NONE, () -> x.play(steps));
        }
        is(2, x.many(4));
        asks(x, 1, x::judge);
        is(0, x.prove(4));
        is(0, x.many(4));
        asks(x, 0, x::judge);
    }

    private static void overGone() {
        says("(what is none, or when it is OVER, is left out)");
        Run x = sheeted(over(full()), 0, 1, 99, -1);
        for (int n = 0; n < 5; n++) {
            int many = n;
            asks(x, 0, () -> x.goAll(0, 0, many));
            asks(x, many == 0 ? 0 : STATE, () -> x.wouldBe(0, 0, many));
        }
        refuses(x, OUTSIDE, () -> x.goAll(0, 0, 5));
        refuses(x, STATE, () -> x.wouldBe(0, 0, 5));
        refuses(x, OUTSIDE, () -> x.wouldBe(0, 4, 1));
    }

    private static void overAndOn() {
        says("END becomes v: what it was.");
        Run x = over(full());
        refuses(x, STATE, () -> x.ends(1));
        is(2, x.ends(3));
        is(0, x.state(3));
        holds(x.chime() > 0);
        refuses(x, STATE, x::chime);
        is(3, x.anew());
        is(0, x.state(3));
        is(3, x.state(1));
        holds(x.chime() > 0);
        is(3, x.ends(1));
        is(1, x.state(3));
        refuses(x, STATE, x::chime);
    }

    private static void overAt16() {
        says("CHIMES 0 to 15 each have a SKY");
        Run x = noons(6);
        x.ends(16);
        chimes(x, 16);
        is(16, x.state(0));
        is(0, x.state(5));
        is(63, x.state(4));
        refuses(x, STATE, x::chime);
        refuses(x, BAD, () -> x.sky(16, 0));
        refuses(x, STATE, () -> x.ends(15));
        refuses(x, BAD, () -> x.ends(17));
        asks(x, 0, () -> x.on(16));
        x.remake(0, GUILD);
        asks(x, 8 + 3, () -> x.dialOf(0, SHADES));
        asks(x, 8 + 3 + 5 * 2, () -> x.spotOf(1, 2));
        is(16, x.anew());
        is(6, x.state(5));
    }
}
