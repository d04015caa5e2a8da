/** What is asked of chimes, plans, games, reports and lots, at its bounds: promises 15 to 36. */
public final class AskBoundsTest extends Check {
    private static final int[] ZS = {1, 0, -1, FAR[0], FAR[1], 65535, 65536, -65536, 77, 1 << 30, -1234567};

    public static void main(String[] args) {
        rest();
        on();
        when();
        prideFor();
        spotFor();
        late();
        middle();
        knots();
        seats();
        seatsInShade();
        plansTaken();
        plansFewer();
        plansOfAll();
        firstOfBest();
        order();
        bars();
        games();
        gamesOver();
        reportsTaken();
        reportsFull();
        forget();
        lagAtFirst();
        lagTo99();
        shadedTo99();
        behindChimes();
        lone();
        liars();
        seeds();
        lots();
        times();
        timesByLot();
        end("AskBoundsTest");
    }

    private static void rest() {
        says("THE REST: all CHIMES yet, in each the least DIAL being told that MAY be set (none, if there is none).");
        Run x = noons(5);
        told(x, "dial if number=0 keep; dial if number=1 argue;");
        x.change(2, LAG, 54);
        x.change(3, RIGHT, 1);
        x.change(4, LAG, 53);
        is(1 + 3, x.chime());
        is(8 + 16, x.state(4));
        is(3, x.chime());
        is(8 + 16, x.state(4));
        is(54, x.dialOf(2, LAG));
        Run y = ruled(noons(2), "dial argue;");
        y.change(1, LAG, 40);
        is(0, y.chime());
        is(40, y.dialOf(1, LAG));
        asks(y, 0, () -> y.on(16));
    }

    private static void on() {
        says("What n (0 to 16) CHIMES of THE REST (fewer, if it is OVER) are WORTH. BAD.");
        for (Run x : new Run[] {new Run(), full(), over(full())}) takes(x, 0, 16, x::on);
        for (int end : new int[] {1, 2, 11, 12, 15, 16}) {
            Run x = clockwork();
            x.ends(end);
            for (int n = 0; n < 17; n++) is(Math.min(n, end), x.on(n));
            x.chime();
            for (int n = 0; n < 17; n++) is(Math.min(n, end - 1), x.on(n));
            asks(x, end - 1, () -> x.on(16));
        }
        Run y = full();
        asks(y, y.on(3), () -> y.on(3));
    }

    private static void when() {
        says("The first CHIME of THE REST behind which a DIAL is RIGHT. BAD; NONE (also if it is now).");
        Run x = noons(6);
        takes(x, 0, 5, x::when);
        for (int k = 0; k < 6; k++) is(k, x.when(k));
        x.ends(6);
        asks(x, 5, () -> x.when(5));
        x.ends(5);
        asks(x, NONE, () -> x.when(5));
        is(4, x.when(4));
        x.chime();
        refuses(x, NONE, () -> x.when(0));
        is(1, x.when(1));
        is(4, x.when(4));
        Run y = ruled(noons(1), "dial if chime<15 keep;");
        refuses(y, NONE, () -> y.when(0));
        y.ends(15);
        is(NONE, y.when(0));
        y.ends(16);
        is(15, y.when(0));
        chimes(y, 15);
        is(15, y.when(0));
        y.chime();
        refuses(y, NONE, () -> y.when(0));
        is(1, y.state(4));
        y.change(0, RIGHT, 0);
        refuses(y, NONE, () -> y.when(0));
        Run z = one(NOON, 54, 0);
        refuses(z, NONE, () -> z.when(0));
        z.change(0, LAG, 53);
        is(0, z.when(0));
        refuses(z, BAD, () -> z.when(1));
    }

    private static void prideFor() {
        says("PRIDE with which a DIAL makes THE REST WORTH most; of several the least. BAD.");
        String[] rules = {
            "", "noon if pride=9 keep;", "noon if pride>0 keep;", "noon if pride<9 keep;", "noon if not pride=5 keep;",
            "noon if pride>1 keep;", "noon keep;", "noon argue;"};
        int[] due = {9, 8, 0, 9, 5, 1, 0, 0};
        for (int i = 0; i < due.length; i++) {
            Run x = ruled(one(NOON, 0, 0), rules[i]);
            x.change(0, PRIDE, 4);
            asks(x, due[i], () -> x.prideFor(0));
            is(4, x.dialOf(0, PRIDE));
            is(BAD, x.prideFor(1));
        }
        Run y = one(NOON, 99, 0);
        is(9, y.prideFor(0));
        told(y, "noon if pride=9 keep;");
        is(8, y.prideFor(0));
        told(y, "noon if pride>7 keep;");
        is(0, y.prideFor(0));
        y.rules();
        y.change(0, RIGHT, 1);
        is(0, y.prideFor(0));
        for (Run z : new Run[] {full(), over(full())}) takes(z, 0, 4, z::prideFor);
        Run six = noons(6);
        takes(six, 0, 5, six::prideFor);
        is(9, six.prideFor(5));
        six.ends(5);
        is(0, six.prideFor(5));
        is(9, six.prideFor(4));
        Run end = over(noons(1));
        is(0, end.prideFor(0));
    }

    private static void spotFor() {
        says("SPOT likewise. BAD.");
        for (int f = 0; f < 7; f++) {
            Run x = ruled(one(LOW, 0, 3), "low if chime=0 keep;");
            for (int wall = 0; wall < f; wall++) x.spot(wall, 0, 5);
            asks(x, f < 6 ? f : 0, () -> x.spotFor(0));
            is(3, x.dialOf(0, SPOT));
            x.spot(0, 0, 4);
            is(f == 0 ? 1 : f < 6 ? f : 0, x.spotFor(0));
            x.spot(0, 0, 3);
            is(0, x.spotFor(0));
        }
        Run y = ruled(one(LOW, 0, 3), "low if chime=0 keep;");
        y.ends(1);
        y.spot(0, 0, 9);
        is(0, y.spotFor(0));
        y.ends(2);
        is(1, y.spotFor(0));
        for (Run z : new Run[] {full(), over(full())}) takes(z, 0, 4, z::spotFor);
        Run six = noons(6);
        takes(six, 0, 5, six::spotFor);
    }

    /** A low that is told to keep, and lags 1 more by each CHIME. */
    private static Run slow(int lag) {
        Run x = ruled(one(LOW, lag, 0), "dial keep;");
        for (int c = 0; c < 16; c++) x.sky(c, 4);
        return x;
    }

    private static void late() {
        says("LATE: the first CHIME, from CHIME on, as which it is when LAG of it is 50 or more, in THE REST.");
        says("LATE (CHIME itself, if LAG is 50 or more now). BAD; NONE.");
        int[] lags = {99, 51, 50, 49, 48, 39, 38, 37, 35, 34, 33, 0};
        int[] by12 = {0, 0, 0, 1, 2, 11, 12, NONE, NONE, NONE, NONE, NONE};
        int[] by16 = {0, 0, 0, 1, 2, 11, 12, 13, 15, 16, NONE, NONE};
        for (int i = 0; i < lags.length; i++) {
            Run x = slow(lags[i]);
            asks(x, by12[i], () -> x.late(0));
            x.ends(16);
            asks(x, by16[i], () -> x.late(0));
            chimes(x, 3);
            is(by16[i] == NONE ? NONE : Math.max(3, by16[i]), x.late(0));
            chimes(x, 13);
            is(by16[i] == NONE ? NONE : 16, x.late(0));
            is(1, x.state(3));
        }
        Run y = slow(49);
        told(y, "dial set;");
        is(NONE, y.late(0));
        told(y, "dial if chime=0 keep;");
        is(1, y.late(0));
        y.change(0, RIGHT, 1);
        is(NONE, y.late(0));
        y.change(0, LAG, 50);
        is(0, y.late(0));
        for (Run z : new Run[] {full(), over(full())}) takes(z, 0, 4, z::late);
    }

    private static void middle() {
        says("MIDDLE: the DIAL of whose LAG those of all others are least apart, together; of several the least.");
        says("MIDDLE, by LAGS now. NONE: there are no DIALS.");
        Run none = new Run();
        refuses(none, NONE, none::middle);
        int[][] lags = {
            {0}, {99}, {0, 99}, {99, 0}, {0, 99, 50}, {0, 0, 99}, {99, 0, 0}, {10, 20, 12, 18}, {99, 98, 97, 96, 95, 50},
            {0, 99, 0, 99, 0, 99}, {99, 0, 99, 0, 0, 0}, {0, 1, 2, 3, 4, 5}, {7, 7, 7, 7, 7, 7}, {0, 99, 99, 99, 0, 50}};
        int[] due = {0, 0, 0, 0, 2, 0, 1, 2, 2, 0, 1, 2, 0, 1};
        for (int i = 0; i < due.length; i++) {
            Run x = noons(lags[i].length);
            for (int k = 0; k < lags[i].length; k++) x.change(k, LAG, lags[i][k]);
            int want = due[i];
            asks(x, want, x::middle);
            for (int k = 0; k < lags[i].length; k++) x.change(k, RIGHT, 1);
            is(want, x.middle());
        }
    }

    private static void knots() {
        says("CLOSE: two DIALS that aren't RIGHT and AGREE; a KNOT: all that hang together so, one by the other.");
        says("KNOTS: what -1 how many, 0 .. 5 DIALS of that DIAL's KNOT, as a set (0: it is RIGHT). BAD: also no such DIAL.");
        Run none = new Run();
        is(0, none.knots(-1));
        for (int what : new int[] {-2, 0, 5, 6, FAR[0], FAR[1]}) refuses(none, BAD, () -> none.knots(what));
        for (int n = 1; n < 7; n++) {
            Run x = noons(n);
            takes(x, -1, n - 1, x::knots);
            asks(x, 1, () -> x.knots(-1));
            is((1 << n) - 1, x.knots(n - 1));
            for (int k = 0; k < n; k++) x.change(k, LAG, 6 * k);
            is(n, x.knots(-1));
            for (int k = 0; k < n; k++) is(1 << k, x.knots(k));
            for (int k = 0; k < n; k++) x.change(k, LAG, 99 - 5 * k);
            is(1, x.knots(-1));
            for (int k = 0; k < n; k++) is((1 << n) - 1, x.knots(k));
            for (int k = 0; k < n; k++) x.change(k, RIGHT, 1);
            is(0, x.knots(-1));
            for (int k = 0; k < n; k++) is(0, x.knots(k));
        }
        Run y = noons(6);
        int[] lags = {50, 60, 55, 45, 65, 40};
        for (int k = 0; k < 6; k++) y.change(k, LAG, lags[k]);
        asks(y, 63, () -> y.knots(5));
        y.change(2, RIGHT, 1);
        is(2, y.knots(-1));
        is(1 + 8 + 32, y.knots(5));
        is(2 + 16, y.knots(1));
        refuses(y, 0, () -> y.knots(2));
    }

    private static void seats() {
        says("SEATS by so much: the SPOTS of which no two are next to each other");
        says("SEATS by most (0 to 99): what 0 BENCHES together, 1 the set (0: none, or of no BENCH). BAD.");
        for (Run x : new Run[] {new Run(), full()}) {
            for (int what : new int[] {0, 1}) takes(x, 0, 99, most -> x.seats(most, what));
            for (int most : new int[] {0, 99}) takes(x, 0, 1, what -> x.seats(most, what));
            refuses(x, BAD, () -> x.seats(100, 2));
            asks(x, x.seats(5, 1), () -> x.seats(5, 1));
        }
        int[][] benchesSumSet = {
            {0, 0, 0, 0, 0, 0, 0, 0}, {9, 9, 9, 9, 9, 9, 27, 21}, {1, 0, 0, 0, 0, 0, 1, 1}, {0, 0, 0, 0, 0, 1, 1, 32},
            {9, 0, 0, 0, 0, 9, 18, 33}, {0, 0, 9, 8, 0, 0, 9, 4}, {0, 0, 8, 9, 0, 0, 9, 8}, {0, 0, 9, 9, 0, 0, 9, 4},
            {4, 9, 5, 0, 0, 0, 9, 2}, {5, 9, 5, 0, 0, 0, 10, 5}, {0, 9, 0, 9, 0, 9, 27, 42}, {1, 2, 0, 0, 2, 1, 4, 18},
            {0, 0, 0, 0, 3, 3, 3, 16}, {9, 9, 0, 0, 9, 9, 18, 17}};
        for (int[] b : benchesSumSet) {
            Run x = new Run();
            for (int f = 0; f < 6; f++) x.spot(f, 1, b[f]);
            is(b[6], x.seats(0, 0));
            is(b[7], x.seats(0, 1));
        }
    }

    private static void seatsInShade() {
        says("each of SHADE so much or less now, whose BENCHES are most together; of several the least, as a set.");
        Run x = new Run();
        for (int f = 0; f < 6; f++) {
            x.spot(f, 0, f + 1);
            x.spot(f, 1, 1);
        }
        int[] sums = {0, 1, 1, 2, 2, 3, 3, 3}, sets = {0, 1, 1, 5, 5, 21, 21, 21};
        for (int most = 0; most < 8; most++) {
            is(sums[most], x.seats(most, 0));
            is(sets[most], x.seats(most, 1));
        }
        is(3, x.seats(99, 0));
        Run y = new Run();
        y.spot(1, 0, 9);
        y.spot(1, 1, 9);
        for (int k = 0; k < 6; k++) y.dial(GUILD, 0, 0, 0);
        y.sky(0, 0);
        told(y, "dial keep;");
        int[] mosts = {0, 56, 57, 58, 99}, due = {0, 0, 9, 9, 9};
        for (int i = 0; i < 5; i++) is(due[i], y.seats(mosts[i], 0));
        y.ends(16);
        chimes(y, 16);
        is(75, y.spotOf(1, 2));
        is(0, y.seats(74, 1));
        is(2, y.seats(75, 1));
    }

    private static Run[] someSquares() {
        return new Run[] {new Run(), full(), over(full()), noons(6)};
    }

    private static void plansTaken() {
        says("WORTH of the BEST PLANS of n (0 to 4). BAD.");
        says("The i-th (0 to 3) ACT of the FIRST of them. BAD; NONE: it has not so many.");
        says("ORDER by n (0 to 4), a set of DIALS (of such as there are). BAD; NONE.");
        for (Run x : someSquares()) {
            takes(x, 0, 4, x::best);
            takes(x, 0, 4, x::ways);
            for (int i : new int[] {0, 3}) takes(x, 0, 4, n -> x.ith(n, i));
            for (int n : new int[] {0, 4}) takes(x, 0, 3, i -> x.ith(n, i));
            takes(x, 0, 4, n -> x.order(n, 0));
            takes(x, 0, 4, n -> x.bars(n, 0));
            int all = (1 << x.many(0)) - 1;
            for (int n : new int[] {0, 4}) {
                takes(x, 0, all, set -> x.order(n, set));
                takes(x, 0, all, set -> x.bars(n, set));
            }
            refuses(x, BAD, () -> x.ith(5, 4));
            refuses(x, BAD, () -> x.ith(5, 0));
            refuses(x, BAD, () -> x.order(5, all + 1));
            refuses(x, BAD, () -> x.bars(-1, -1));
            asks(x, x.best(4), () -> x.best(4));
            asks(x, x.ith(4, 3), () -> x.ith(4, 3));
            asks(x, x.ways(4), () -> x.ways(4));
            asks(x, x.order(3, all), () -> x.order(3, all));
            asks(x, x.bars(3, all), () -> x.bars(3, all));
        }
    }

    private static void plansFewer() {
        says("A PLAN of n: n CHIMES (fewer, if it is OVER), ahead of each an ACT");
        for (int end = 1; end < 7; end++) {
            for (int gone = 0; gone <= end; gone++) {
                Run x = clockwork();
                x.ends(end);
                chimes(x, gone);
                for (int n = 0; n < 5; n++) {
                    int steps = Math.min(n, end - gone);
                    is(steps, x.best(n));
                    is(1 << 2 * steps, x.ways(n));
                    for (int i = 0; i < 4; i++) is(i < steps ? 0 : NONE, x.ith(n, i));
                    is(0, x.order(n, 0));
                    is(NONE, x.order(n, 1));
                    is(NONE, x.bars(n, 0));
                    is(1, x.bars(n, 6));
                }
            }
        }
        Run y = noons(1);
        refuses(y, NONE, () -> y.ith(0, 0));
        refuses(y, NONE, () -> y.ith(2, 2));
        refuses(y, NONE, () -> y.ith(3, 3));
        y.ends(16);
        chimes(y, 15);
        is(0, y.ith(4, 0));
        refuses(y, NONE, () -> y.ith(4, 1));
    }

    private static void plansOfAll() {
        says("How many of them there are. BAD.");
        for (int dials = 0; dials < 7; dials++) {
            Run x = ruled(noons(dials), "dial keep;");
            int ways = 1;
            for (int n = 0; n < 5; n++) {
                is(ways, x.ways(n));
                ways *= dials + 1;
            }
        }
        Run y = noons(6);
        is(4 * 9 + 4 * 7, y.best(4));
        is(6 * 5 * 4 * 3, y.ways(4));
        for (int i = 0; i < 4; i++) is(i + 1, y.ith(4, i));
    }

    private static void firstOfBest() {
        says("BEST: those with most WORTH; the FIRST of these is that with the lesser ACT where they are unlike first.");
        Run x = noons(6);
        for (int k = 0; k < 5; k++) x.change(k, LAG, 54 + 6 * k);
        is(9, x.best(1));
        is(6, x.ith(1, 0));
        is(1, x.ways(1));
        is(9, x.best(4));
        for (int i = 0; i < 3; i++) is(0, x.ith(4, i));
        is(6, x.ith(4, 3));
        Run y = new Run();
        y.dial(NOON, 12, 0, 0);
        y.dial(NOON, 12, 0, 0);
        y.dial(NOON, 0, 0, 0);
        is(9, y.best(1));
        is(3, y.ith(1, 0));
        is(9 + 7, y.best(2));
        is(4, y.ways(2));
        is(1, y.ith(2, 0));
        is(3, y.ith(2, 1));
    }

    private static void order() {
        says("the fewest ACTS that aren't 0 in a PLAN of n behind which each of them is RIGHT.");
        Run x = noons(6);
        for (int n = 0; n < 5; n++) {
            for (int set : new int[] {0, 1, 32, 33, 7, 56, 15, 60, 31, 62, 63}) {
                int dials = Integer.bitCount(set);
                is(dials <= n ? dials : NONE, x.order(n, set));
            }
        }
        refuses(x, NONE, () -> x.order(4, 63));
        refuses(x, NONE, () -> x.order(0, 1));
        refuses(x, BAD, () -> x.order(0, 64));
        chimes(x, 4);
        is(0, x.order(0, 15));
        is(NONE, x.order(0, 31));
        is(1, x.order(1, 31));
        is(NONE, x.order(1, 63));
        is(2, x.order(2, 63));
        x.ends(5);
        is(NONE, x.order(4, 63));
        is(1, x.order(4, 31));
        x.chime();
        is(0, x.order(4, 31));
        refuses(x, NONE, () -> x.order(4, 32));
        for (int dials = 0; dials < 7; dials++) {
            Run y = noons(dials);
            int all = (1 << dials) - 1;
            holds(y.order(4, all) != BAD);
            for (int set : new int[] {all + 1, -1, FAR[0], FAR[1]}) refuses(y, BAD, () -> y.order(4, set));
            for (int set : new int[] {all + 1, -1, FAR[0], FAR[1]}) refuses(y, BAD, () -> y.bars(4, set));
        }
    }

    private static void bars() {
        says("BAR likewise. BAD; NONE: each is so behind some.");
        Run x = noons(6);
        for (int n = 1; n < 5; n++) is(NONE, x.bars(n, 63));
        refuses(x, NONE, () -> x.bars(1, 63));
        refuses(x, NONE, () -> x.bars(0, 0));
        for (int k = 0; k < 6; k++) is(k, x.bars(0, 63 << k & 63));
        told(x, "dial if number=5 keep; dial if number=0 and chime<3 argue;");
        is(5, x.bars(4, 63));
        is(0, x.bars(3, 63));
        is(5, x.bars(3, 62));
        is(NONE, x.bars(3, 30));
        x.change(5, RIGHT, 1);
        is(NONE, x.bars(4, 63));
        is(NONE, x.bars(0, 32));
        x.ends(3);
        is(0, x.bars(4, 63));
        chimes(x, 3);
        is(0, x.bars(4, 63));
        is(4, x.bars(4, 16));
        is(NONE, x.bars(4, 32));
    }

    private static void games() {
        says("VALUE of a GAME of n (1 to 4). BAD.");
        says("The least ACT by which who begins comes to it. BAD; NONE: it is OVER.");
        for (Run x : new Run[] {new Run(), full(), noons(6)}) {
            takes(x, 1, 4, x::game);
            takes(x, 1, 4, x::play);
            asks(x, x.game(4), () -> x.game(4));
            asks(x, x.play(4), () -> x.play(4));
        }
        Run x = new Run();
        x.dial(NOON, 12, 0, 0);
        x.dial(NOON, 0, 0, 0);
        int[] values = {0, 9, 9, 16, 16}, acts = {0, 2, 2, 1, 1};
        for (int n = 1; n < 5; n++) {
            is(values[n], x.game(n));
            is(acts[n], x.play(n));
        }
        Run y = noons(6);
        for (int k = 0; k < 5; k++) y.change(k, LAG, 60);
        is(9 + 5, y.game(1));
        is(6, y.play(1));
        Run z = clockwork();
        for (int n = 1; n < 5; n++) {
            is(n, z.game(n));
            is(0, z.play(n));
        }
    }

    private static void gamesOver() {
        says("GAME of n: two in turn, ahead of n CHIMES (till it is OVER) each an ACT (also 0)");
        for (int left = 0; left < 6; left++) {
            Run x = clockwork();
            x.ends(6);
            chimes(x, 6 - left);
            for (int n = 1; n < 5; n++) {
                is(Math.min(n, left), x.game(n));
                is(left == 0 ? NONE : 0, x.play(n));
            }
        }
        Run y = over(full());
        takes(y, 1, 4, y::game);
        for (int n : new int[] {1, 4}) refuses(y, NONE, () -> y.play(n));
        for (int n : new int[] {0, 5, FAR[0], FAR[1]}) refuses(y, BAD, () -> y.play(n));
        is(0, y.game(4));
        Run z = new Run();
        z.dial(NOON, 12, 0, 0);
        z.dial(NOON, 0, 0, 0);
        z.ends(2);
        is(9, z.game(3));
        is(2, z.play(3));
    }

    private static void reportsTaken() {
        says("behind k CHIMES (0 to 15; from CHIME 0 on) LAG (asked 0), or what it has SHADED together, 99 at most (1), was from LEAST to MOST (0 to 99).");
        says("A REPORT: its number. BAD: also MOST below LEAST; FULL.");
        for (Run x : new Run[] {new Run(), full()}) {
            takes(x, 0, 15, k -> x.report(k, 0, 0, 99));
            takes(x, 0, 1, asked -> x.report(0, asked, 0, 99));
            for (int asked : new int[] {0, 1}) {
                takes(x, 0, 99, least -> x.report(15, asked, least, 99));
                takes(x, 0, 99, most -> x.report(15, asked, 0, most));
                takes(x, 0, 50, least -> x.report(3, asked, least, 50));
                takes(x, 50, 99, most -> x.report(3, asked, 50, most));
            }
            refuses(x, BAD, () -> x.report(0, 0, 99, 98));
            refuses(x, BAD, () -> x.report(0, 0, -2, -1));
            refuses(x, BAD, () -> x.report(0, 0, 100, 101));
        }
    }

    private static void reportsFull() {
        says("A REPORT (6 at most)");
        Run x = new Run();
        for (int r = 0; r < 6; r++) {
            is(r, x.report(r, r % 2, r, 99));
            is(r + 1, x.many(3));
        }
        refuses(x, FULL, () -> x.report(0, 0, 0, 99));
        refuses(x, FULL, () -> x.report(15, 1, 99, 99));
        for (int v : new int[] {-1, 16}) refuses(x, BAD, () -> x.report(v, 0, 0, 0));
        for (int v : new int[] {-1, 2}) refuses(x, BAD, () -> x.report(0, v, 0, 0));
        for (int v : new int[] {-1, 100}) refuses(x, BAD, () -> x.report(0, 0, v, 99));
        for (int v : new int[] {-1, 100}) refuses(x, BAD, () -> x.report(0, 0, 0, v));
        refuses(x, BAD, () -> x.report(0, 0, 1, 0));
    }

    private static void forget() {
        says("There are no REPORTS: how many there were.");
        for (int n = 0; n < 7; n++) {
            Run x = full();
            x.forget();
            for (int r = 0; r < n; r++) is(r, x.report(0, 0, 5, 5));
            is(n, x.forget());
            is(0, x.many(3));
            is(500, x.lone(0));
            is(0, x.forget());
            is(0, x.report(0, 0, 0, 99));
        }
    }

    /** How many FIT one REPORT. */
    private static int fit(Run x, int k, int asked, int least, int most) {
        x.forget();
        x.report(k, asked, least, most);
        return x.lone(0);
    }

    private static void lagAtFirst() {
        says("LAG at first (0, 10, .. 90), told nothing.");
        Run x = new Run();
        int[][] leastMostFit = {
            {0, 0, 50}, {0, 9, 50}, {0, 10, 100}, {1, 9, 0}, {1, 10, 50}, {10, 10, 50}, {10, 11, 50}, {9, 10, 50}, {11, 19, 0},
            {11, 20, 50}, {89, 90, 50}, {90, 90, 50}, {90, 99, 50}, {91, 99, 0}, {99, 99, 0}, {0, 89, 450}, {0, 90, 500}, {0, 99, 500}};
        for (int[] l : leastMostFit) is(l[2], fit(x, 0, 0, l[0], l[1]));
        for (int lag = 0; lag < 100; lag += 10) {
            is(50, fit(x, 0, 0, lag, lag));
            is(lag, x.lone(3));
        }
        is(500, fit(x, 0, 1, 0, 0));
        is(0, fit(x, 0, 1, 1, 99));
    }

    private static void lagTo99() {
        says("SHADE of its SPOT (0 to 9, all the time)");
        Run x = new Run();
        x.report(0, 0, 90, 90);
        x.report(1, 0, 99, 99);
        is(10, x.lone(0));
        is(LOW, x.lone(1));
        is(5, x.lone(2));
        is(90, x.lone(3));
        x.forget();
        x.report(0, 0, 80, 80);
        x.report(1, 0, 97, 97);
        is(1, x.lone(0));
        is(LOW, x.lone(1));
        is(9, x.lone(2));
        x.report(2, 0, 99, 99);
        x.report(15, 0, 99, 99);
        is(1, x.lone(0));
        x.report(14, 0, 0, 98);
        is(0, x.lone(0));
        x.forget();
        x.report(0, 0, 0, 0);
        x.report(1, 0, 17, 17);
        is(1, x.lone(0));
        is(9, x.lone(2));
        is(0, x.lone(3));
    }

    private static void shadedTo99() {
        says("or what it has SHADED together, 99 at most (1)");
        Run x = new Run();
        is(100, fit(x, 15, 1, 99, 99));
        is(GUILD, x.lone(1));
        is(0, fit(x, 15, 1, 91, 98));
        is(100, fit(x, 15, 1, 90, 90));
        is(TALL, x.lone(1));
        is(100, fit(x, 15, 1, 30, 30));
        is(NOON, x.lone(1));
        is(100, fit(x, 15, 1, 15, 15));
        is(LOW, x.lone(1));
        is(100, fit(x, 15, 1, 10, 10));
        is(SLIT, x.lone(1));
        for (int c = 0; c < 3; c++) x.sky(c, 8);
        is(100, fit(x, 15, 1, 99, 99));
        is(0, fit(x, 15, 1, 85, 98));
        x.sky(3, 8);
        is(0, fit(x, 15, 1, 98, 99));
        is(100, fit(x, 15, 1, 97, 97));
        for (int c = 0; c < 16; c++) x.sky(c, 0);
        is(100, fit(x, 12, 1, 96, 96));
        is(200, fit(x, 13, 1, 99, 99));
        is(200, fit(x, 15, 1, 99, 99));
    }

    private static void behindChimes() {
        says("behind k CHIMES (0 to 15; from CHIME 0 on)");
        Run x = new Run();
        int[] slit = {0, 0, 1, 2, 2, 3, 4, 4, 5, 6, 6, 7, 8, 8, 9, 10};
        int[] guild = {0, 6, 12, 18, 24, 30, 37, 44, 51, 58, 65, 73, 81, 89, 97, 99};
        for (int k = 0; k < 16; k++) {
            int noon = 2 * k, low = k, tall = 6 * k;
            for (int due : new int[] {noon, low, tall, slit[k], guild[k]}) {
                int some = 0;
                for (int other : new int[] {noon, low, tall, slit[k], guild[k]}) if (other == due) some++;
                is(100 * some, fit(x, k, 1, due, due));
            }
        }
        x.ends(1);
        x.chime();
        is(100, fit(x, 15, 1, 10, 10));
        x.forget();
        x.report(0, 0, 0, 0);
        x.sky(14, 4);
        x.report(14, 0, 0, 0);
        x.report(15, 0, 1, 1);
        is(6, x.lone(0));
        is(TALL, x.lone(1));
        is(1, x.lone(2));
        x.report(15, 1, 10, 10);
        is(1, x.lone(0));
        is(SLIT, x.lone(1));
    }

    private static void lone() {
        says("LONE DIALS that FIT: what = 0 how many; of that with the least KIND, of these the least SHADE, of these the least LAG: 1 KIND, 2 SHADE, 3 LAG. BAD; NONE (of 1, 2, 3): there are none.");
        for (Run x : new Run[] {new Run(), full()}) {
            takes(x, 0, 3, x::lone);
            for (int what = 0; what < 4; what++) {
                int w = what;
                asks(x, x.lone(w), () -> x.lone(w));
            }
        }
        Run y = new Run();
        int[] first = {500, NOON, 0, 0};
        for (int what = 0; what < 4; what++) is(first[what], y.lone(what));
        y.report(0, 0, 5, 5);
        is(0, y.lone(0));
        for (int what = 1; what < 4; what++) {
            int w = what;
            refuses(y, NONE, () -> y.lone(w));
        }
        for (int what : new int[] {-1, 4, FAR[0], FAR[1]}) refuses(y, BAD, () -> y.lone(what));
        is(100, fit(y, 15, 1, 10, 10));
        y.report(0, 0, 90, 90);
        y.report(1, 0, 99, 99);
        is(5, y.lone(0));
        is(SLIT, y.lone(1));
        is(5, y.lone(2));
        is(90, y.lone(3));
    }

    private static void liars() {
        says("LIAR: if none FITS, the least REPORT but for which some would.");
        says("LIAR. NONE: some FIT; or there is no such REPORT.");
        Run none = new Run();
        refuses(none, NONE, none::liar);
        for (int n = 1; n < 7; n++) {
            for (int liar = 0; liar < n; liar++) {
                Run x = new Run();
                for (int r = 0; r < n; r++) x.report(0, 0, r == liar ? 10 : 20, r == liar ? 10 : 20);
                is(n == 1 ? NONE : n == 2 ? 0 : liar, x.liar());
                is(n == 1 ? 50 : 0, x.lone(0));
            }
            Run y = new Run();
            for (int r = 0; r < n - 1; r++) y.report(0, 0, 20, 20);
            y.report(0, 0, 21, 21);
            asks(y, n - 1, y::liar);
            if (n < 6) {
                y.report(0, 0, 21, 21);
                refuses(y, NONE, y::liar);
            }
        }
        Run z = new Run();
        for (int r = 0; r < 6; r++) z.report(0, 0, 10 * r, 10 * r);
        refuses(z, NONE, z::liar);
        z.forget();
        for (int r = 0; r < 6; r++) z.report(0, 0, 10 * r, 99);
        refuses(z, NONE, z::liar);
        is(200 + 50, z.lone(0));
    }

    private static void seeds() {
        says("z becomes v: what it was.");
        Run x = new Run();
        int was = 1;
        for (int z : ZS) {
            is(was, x.seed(z));
            was = z;
        }
    }

    /** z * 1103515245 + 12345 by longs, of which an int's 32 bits are left. */
    private static int next(int z) {
        return (int) (z * 1103515245L + 12345L);
    }

    private static int actOf(int z, int dials) {
        long top = (z & 0xffffffffL) / 65536;
        return (int) (top % (dials + 1));
    }

    private static void lots() {
        says("z (an int; 1 at first) becomes z * 1103515245 + 12345; the ACT in it is what z >>> 16 leaves by how many DIALS there are and 1.");
        says("A CHIME by LOT: what it was WORTH. STATE: it is OVER.");
        is(1103527590, next(1));
        is(-1103502900, next(-1));
        is(-2147471303, next(FAR[0]));
        is(1043980748, next(FAR[1]));
        for (int z : ZS) {
            for (int dials = 0; dials < 7; dials++) {
                Run x = spread(dials);
                x.seed(z);
                int act = actOf(next(z), dials);
                is(act == 0 ? 0 : 10 - act, x.lot());
                is(act == 0 ? 0 : 1 << act - 1, x.state(4));
                is(1, x.state(0));
                is(next(z), x.seed(0));
            }
        }
        Run y = spread(6);
        for (int i = 0; i < 12; i++) holds(y.lot() >= 0);
        refuses(y, STATE, y::lot);
        y.ends(13);
        holds(y.lot() >= 0);
        refuses(y, STATE, y::lot);
    }

    private static void times() {
        says("How many of n (1 to 40) times all CHIMES yet by LOT, each from how it is now (z goes on from one to the next), are WORTH v (0 to 999) or more (all is as it was in the end, z, too). BAD.");
        for (Run x : new Run[] {new Run(), full(), over(full())}) {
            for (int v : new int[] {0, 999}) takes(x, 1, 40, n -> x.times(n, v));
            for (int n : new int[] {1, 40}) takes(x, 0, 999, v -> x.times(n, v));
            refuses(x, BAD, () -> x.times(0, -1));
            refuses(x, BAD, () -> x.times(41, 1000));
            asks(x, x.times(40, 20), () -> x.times(40, 20));
        }
        for (int end : new int[] {1, 12, 16}) {
            Run y = clockwork();
            y.ends(end);
            for (int gone = 0; gone < 2; gone++) {
                for (int n : new int[] {1, 2, 39, 40}) {
                    int worth = end - gone;
                    if (worth > 0) is(n, y.times(n, worth - 1));
                    is(n, y.times(n, worth));
                    is(0, y.times(n, worth + 1));
                    is(0, y.times(n, 999));
                }
                y.chime();
            }
        }
    }

    private static void timesByLot() {
        says("(z goes on from one to the next)");
        for (int z : ZS) {
            for (int end = 1; end < 4; end++) {
                Run x = noons(1);
                x.ends(end);
                x.seed(z);
                int at = z, paid = 0;
                for (int n = 1; n < 41; n++) {
                    boolean set = false;
                    for (int c = 0; c < end; c++) {
                        at = next(at);
                        set |= actOf(at, 1) == 1;
                    }
                    if (set) paid++;
                    is(paid, x.times(n, 9));
                    is(0, x.times(n, 10));
                }
                is(z, x.seed(z));
            }
        }
    }
}
