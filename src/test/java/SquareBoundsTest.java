/** The square and how a CHIME goes by, at their bounds: section 1 of the document, promises 2 to 11 and 14. */
public final class SquareBoundsTest extends Check {
    private static final int[] KINDS = {NOON, TALL, GUILD, LOW, SLIT};

    public static void main(String[] args) {
        calls();
        ends();
        overFromEndOn();
        endBelowChime();
        skyOfEachChime();
        sunAndCloud();
        skyAtFirstAndBehind15();
        spots();
        score();
        dialsTaken();
        dialsFull();
        dialsNumbered();
        kindsUnder();
        shades();
        shadeOfSpot();
        slips();
        pays();
        mayBeSet();
        agree();
        pairs();
        sets();
        argueHalf();
        argueNear();
        argueRight();
        keeps();
        halfOfPairs();
        slipsTo99();
        slipsAsItBegins();
        dialOf();
        change();
        remake();
        spotOf();
        anew();
        state();
        chimeOver();
        end("SquareBoundsTest");
    }

    private static void calls() {
        says("An object is used for at most 512 calls after it has been made");
        Run x = clockwork();
        while (x.callsYet() < 511) x.seed(x.callsYet());
        is(510, x.seed(0));
        is(512, x.callsYet());
    }

    private static void ends() {
        says("END is 1 to 16 (12 at first)");
        Run x = new Run();
        is(12, x.state(1));
        takes(x, 1, 16, x::ends);
        int was = 12;
        for (int v : new int[] {1, 2, 15, 16, 1}) {
            is(was, x.ends(v));
            is(v, x.state(1));
            was = v;
        }
    }

    private static void overFromEndOn() {
        says("CHIME: the one that comes (0 at first); from END on it is OVER.");
        for (int end : new int[] {1, 2, 12, 15, 16}) {
            Run x = new Run();
            x.ends(end);
            for (int c = 0; c < end; c++) {
                is(c, x.state(0));
                is(0, x.state(3));
                is(0, x.chime());
            }
            is(end, x.state(0));
            is(1, x.state(3));
            refuses(x, STATE, x::chime);
        }
    }

    private static void endBelowChime() {
        says("END becomes v: what it was. BAD; STATE: v is below CHIME.");
        Run x = full();
        chimes(x, 2);
        is(3, x.state(0));
        for (int v : new int[] {1, 2}) refuses(x, STATE, () -> x.ends(v));
        for (int v : new int[] {0, -1, 17, FAR[0], FAR[1]}) refuses(x, BAD, () -> x.ends(v));
        is(12, x.ends(3));
        is(1, x.state(3));
        is(3, x.ends(4));
        is(0, x.state(3));
        x.ends(16);
        chimes(x, 13);
        refuses(x, STATE, () -> x.ends(15));
        is(16, x.ends(16));
    }

    private static void skyOfEachChime() {
        says("CHIMES 0 to 15 each have a SKY");
        Run x = full();
        takes(x, 0, 15, c -> x.sky(c, 1));
        for (int c = 0; c < 16; c++) is(6, x.sky(c, (7 * c + 3) % 16));
        for (int c = 0; c < 16; c++) is((7 * c + 3) % 16, x.sky(c, 0));
    }

    private static void sunAndCloud() {
        says("4 times SUN (0 to 3), and CLOUD (0 to 3)");
        says("The SKY of a CHIME (0 to 15) becomes v (0 to 15): what it was. BAD.");
        Run x = one(TALL, 0, 0);
        x.dial(LOW, 0, 0, 3);
        x.spot(3, 0, 9);
        for (int c : new int[] {0, 15}) takes(x, 0, 15, v -> x.sky(c, v));
        int was = 6;
        for (int v = 0; v < 16; v++) {
            is(was, x.sky(0, v));
            is(v, x.state(5));
            is(8 - 2 * (v / 4), x.dialOf(0, SHADES));
            is(8 - 2 * (v / 4), x.spotOf(1, 2));
            is(19 - v % 4, x.dialOf(1, SLIPS));
            was = v;
        }
        refuses(x, BAD, () -> x.sky(16, 16));
    }

    private static void skyAtFirstAndBehind15() {
        says("6 at first (behind CHIME 15: 0)");
        Run x = one(TALL, 0, 5);
        x.dial(LOW, 99, 0, 0);
        x.spot(0, 0, 9);
        told(x, "dial keep;");
        for (int c = 0; c < 16; c++) is(6, x.sky(c, 15));
        x.ends(16);
        chimes(x, 15);
        is(15, x.state(5));
        is(2, x.dialOf(0, SHADES));
        is(16, x.dialOf(1, SLIPS));
        x.chime();
        is(16, x.state(0));
        is(0, x.state(5));
        is(8, x.dialOf(0, SHADES));
        is(19, x.dialOf(1, SLIPS));
    }

    private static void spots() {
        says("SPOTS 0 to 5, in a row, each have a WALL, a BENCH (0 to 9; 0 at first).");
        says("The WALL of a SPOT (what 0), its BENCH (1) becomes v: what it was. BAD.");
        Run x = new Run();
        for (int f = 0; f < 6; f++) {
            for (int w = 0; w < 3; w++) is(0, x.spotOf(f, w));
            is(0, x.spot(f, 0, f + 4));
            is(0, x.spot(f, 1, 5 - f));
        }
        for (int f = 0; f < 6; f++) {
            is(f + 4, x.spotOf(f, 0));
            is(5 - f, x.spotOf(f, 1));
            is(f + 4, x.spotOf(f, 2));
        }
        for (int w : new int[] {0, 1}) {
            takes(x, 0, 5, f -> x.spot(f, w, 1));
            for (int f : new int[] {0, 5}) takes(x, 0, 9, v -> x.spot(f, w, v));
        }
        takes(x, 0, 1, w -> x.spot(2, w, 1));
        is(6, x.spot(2, 0, 0));
        is(0, x.spot(2, 0, 9));
        is(9, x.spot(2, 0, 9));
    }

    private static void score() {
        says("SCORE: what CHIMES were WORTH (0 at first).");
        Run x = sheeted(square(), 2, 9, 4);
        is(0, x.state(2));
        int worth = x.chime();
        is(worth, x.state(2));
        worth += x.lot();
        is(worth, x.state(2));
        worth += x.goAll(0, 0, 3);
        is(worth, x.state(2));
        is(-12, x.goAll(0, 2, 2));
        holds(x.state(2) > worth);
        x.anew();
        is(0, x.state(2));
    }

    private static void dialsTaken() {
        says("a KIND, LAG (0 to 99), PRIDE (0 to 9), a SPOT; RIGHT or not (at first)");
        says("A DIAL of a KIND 1 to 5: its number. BAD; FULL.");
        for (Run x : new Run[] {new Run(), full()}) {
            takes(x, 1, 5, v -> x.dial(v, 0, 0, 0));
            takes(x, 0, 99, v -> x.dial(1, v, 0, 0));
            takes(x, 0, 9, v -> x.dial(1, 0, v, 0));
            takes(x, 0, 5, v -> x.dial(1, 0, 0, v));
        }
        Run y = new Run();
        is(0, y.dial(NOON, 0, 0, 0));
        is(1, y.dial(SLIT, 99, 9, 5));
        int[][] due = {{NOON, 0, 0, 0, 0}, {SLIT, 99, 9, 5, 0}};
        for (int k = 0; k < 2; k++) for (int w = 0; w < 5; w++) is(due[k][w], y.dialOf(k, w));
    }

    private static void dialsFull() {
        says("DIALS, 6 at most, numbered as they come");
        Run x = new Run();
        for (int k = 0; k < 6; k++) is(k, x.dial(1 + k % 5, k, k, k));
        refuses(x, FULL, () -> x.dial(NOON, 0, 0, 0));
        refuses(x, FULL, () -> x.dial(SLIT, 99, 9, 5));
        for (int v : new int[] {0, 6}) refuses(x, BAD, () -> x.dial(v, 0, 0, 0));
        for (int v : new int[] {-1, 100}) refuses(x, BAD, () -> x.dial(1, v, 0, 0));
        for (int v : new int[] {-1, 10}) refuses(x, BAD, () -> x.dial(1, 0, v, 0));
        for (int v : new int[] {-1, 6}) refuses(x, BAD, () -> x.dial(1, 0, 0, v));
        is(6, x.many(0));
    }

    private static void dialsNumbered() {
        says("its number. BAD; FULL.");
        Run x = new Run();
        x.keep();
        for (int k = 0; k < 6; k++) is(k, x.dial(NOON, 90 + k, 0, 0));
        for (int k = 0; k < 6; k++) is(90 + k, x.dialOf(k, LAG));
        x.again();
        is(0, x.dial(LOW, 5, 5, 5));
        is(5, x.dialOf(0, LAG));
        is(BAD, x.dialOf(1, LAG));
    }

    private static void kindsUnder() {
        says("KINDS: 0 dial; 1 noon, 2 tall, 4 low (under dial); 3 guild (under tall); 5 slit (under low).");
        Run x = new Run();
        for (int kind : KINDS) x.dial(kind, 0, 0, 0);
        int[][] above = {{0, 1}, {0, 2}, {0, 2, 3}, {0, 4}, {0, 4, 5}};
        for (int k = 0; k < 5; k++) {
            is(KINDS[k], x.dialOf(k, 0));
            x.shelf(0, 0, k);
            int due = 0, got = 0;
            for (int a : above[k]) due |= 1 << a;
            for (int as = 0; as < 6; as++) if (x.taken(0, as) == k) got |= 1 << as;
            is(due, got);
        }
    }

    private static void shades() {
        says("dial: 4 less SUN. noon: 2. tall: twice a dial. guild: as tall, and a fifth of CHIME. low: 1.");
        says("slit: as low, but 0 in CHIMES 0, 3, ..");
        Run x = new Run();
        for (int kind : KINDS) x.dial(kind, 0, 0, 5);
        told(x, "dial keep;");
        x.ends(16);
        int[] fifths = {0, 0, 0, 0, 0, 1, 1, 1, 1, 1, 2, 2, 2, 2, 2, 3, 3};
        for (int c = 0; c < 17; c++) {
            int tall = c < 16 ? 6 : 8;
            int[] due = {2, tall, tall + fifths[c], 1, c == 0 || c == 3 || c == 6 || c == 9 || c == 12 || c == 15 ? 0 : 1};
            for (int k = 0; k < 5; k++) is(due[k], x.dialOf(k, SHADES));
            x.chime();
        }
        x.anew();
        for (int sun = 0; sun < 4; sun++) {
            for (int cloud = 0; cloud < 4; cloud += 3) {
                x.sky(0, 4 * sun + cloud);
                int[] due = {2, 8 - 2 * sun, 8 - 2 * sun, 1, 0};
                for (int k = 0; k < 5; k++) is(due[k], x.dialOf(k, SHADES));
            }
        }
    }

    private static void shadeOfSpot() {
        says("SHADE of a SPOT: its WALL, and what all DIALS in the SPOT ahead (of 1 less) SHADE, RIGHT or not.");
        Run x = new Run();
        x.sky(0, 0);
        x.spot(1, 0, 9);
        for (int k = 0; k < 6; k++) {
            is(9 + 8 * k, x.spotOf(1, 2));
            x.dial(k % 2 == 0 ? TALL : GUILD, 0, 0, 0);
        }
        for (int right = 0; right < 2; right++) {
            int[] due = {0, 57, 0, 0, 0, 0};
            for (int f = 0; f < 6; f++) is(due[f], x.spotOf(f, 2));
            for (int k = 0; k < 6; k++) x.change(k, RIGHT, 1);
        }
        for (int k = 0; k < 6; k++) x.change(k, SPOT, 5);
        for (int f = 0; f < 6; f++) is(f == 1 ? 9 : 0, x.spotOf(f, 2));
        for (int k = 0; k < 6; k++) x.change(k, SPOT, k);
        int[] due = {0, 17, 8, 8, 8, 8};
        for (int f = 0; f < 6; f++) is(due[f], x.spotOf(f, 2));
        x.change(4, SPOT, 5);
        is(0, x.spotOf(5, 2));
        is(0, x.spotOf(0, 2));
    }

    private static void slips() {
        says("dial: SHADE and 1, less CLOUD (0 at least). noon: 0. tall: half of a dial's.");
        says("guild: as tall, less 1 (0 at least). low: as a dial, and SHADE. slit: as low, 9 at most.");
        int[] shade = {0, 1, 2, 3, 4, 5, 9};
        int[][] tall = {{0, 0, 0, 0}, {1, 0, 0, 0}, {1, 1, 0, 0}, {2, 1, 1, 0}, {2, 2, 1, 1}, {3, 2, 2, 1}, {5, 4, 4, 3}};
        int[][] guild = {{0, 0, 0, 0}, {0, 0, 0, 0}, {0, 0, 0, 0}, {1, 0, 0, 0}, {1, 1, 0, 0}, {2, 1, 1, 0}, {4, 3, 3, 2}};
        int[][] low = {{1, 0, 0, 0}, {3, 2, 1, 1}, {5, 4, 3, 2}, {7, 6, 5, 4}, {9, 8, 7, 6}, {11, 10, 9, 8}, {19, 18, 17, 16}};
        int[][] slit = {{1, 0, 0, 0}, {3, 2, 1, 1}, {5, 4, 3, 2}, {7, 6, 5, 4}, {9, 8, 7, 6}, {9, 9, 9, 8}, {9, 9, 9, 9}};
        for (int i = 0; i < shade.length; i++) {
            Run x = new Run();
            for (int kind : KINDS) x.dial(kind, 50, 0, 0);
            told(x, "dial keep;");
            x.spot(0, 0, shade[i]);
            for (int cloud = 0; cloud < 4; cloud++) {
                int[] due = {0, tall[i][cloud], guild[i][cloud], low[i][cloud], slit[i][cloud]};
                x.anew();
                x.sky(0, 12 + cloud);
                for (int k = 0; k < 5; k++) {
                    x.change(k, LAG, 50);
                    is(due[k], x.dialOf(k, SLIPS));
                }
                x.chime();
                for (int k = 0; k < 5; k++) is(50 + due[k], x.dialOf(k, LAG));
            }
        }
    }

    private static void pays() {
        says("PAYS: 9 and PRIDE, less a sixth of LAG (0 at least); 0, if it is RIGHT.");
        int[][] lagPridePays = {
            {0, 0, 9}, {5, 0, 9}, {6, 0, 8}, {11, 0, 8}, {12, 0, 7}, {47, 0, 2}, {48, 0, 1}, {53, 0, 1}, {54, 0, 0}, {55, 0, 0},
            {59, 0, 0}, {60, 0, 0}, {98, 0, 0}, {99, 0, 0}, {0, 1, 10}, {0, 8, 17}, {0, 9, 18}, {5, 9, 18}, {6, 9, 17},
            {95, 6, 0}, {96, 6, 0}, {96, 7, 0}, {96, 8, 1}, {99, 8, 1}, {95, 8, 2}, {95, 9, 3}, {96, 9, 2}, {99, 9, 2}};
        for (int kind : KINDS) {
            Run x = one(kind, 0, 0);
            for (int[] l : lagPridePays) {
                x.change(0, LAG, l[0]);
                x.change(0, PRIDE, l[1]);
                is(l[2], x.dialOf(0, PAYS));
            }
            x.change(0, RIGHT, 1);
            is(0, x.dialOf(0, PAYS));
            x.change(0, LAG, 0);
            is(0, x.dialOf(0, PAYS));
        }
    }

    private static void mayBeSet() {
        says("MAY be set: its WILL is to set, and it PAYS more than 0.");
        Run x = one(NOON, 53, 0);
        is(1, x.dialOf(0, MAY));
        x.change(0, LAG, 54);
        is(0, x.dialOf(0, MAY));
        is(0, x.dialOf(0, WILL));
        x.change(0, PRIDE, 1);
        is(1, x.dialOf(0, MAY));
        for (int does = 0; does < 3; does++) {
            told(x, "dial " + new String[] {"set", "keep", "argue"}[does] + ";");
            is(does, x.dialOf(0, WILL));
            is(does == 0 ? 1 : 0, x.dialOf(0, MAY));
        }
        told(x, "dial set;");
        x.change(0, RIGHT, 1);
        is(0, x.dialOf(0, MAY));
    }

    private static void agree() {
        says("AGREE: two DIALS whose LAGS are 5 or less apart");
        Run x = noons(2);
        int[][] lags = {{0, 0}, {0, 5}, {5, 0}, {0, 4}, {94, 99}, {99, 94}, {50, 50}, {99, 99}};
        int[][] apart = {{0, 6}, {6, 0}, {93, 99}, {99, 93}, {0, 99}, {99, 0}, {50, 57}};
        for (int right = 0; right < 3; right++) {
            for (int[] l : lags) {
                x.change(0, LAG, l[0]);
                x.change(1, LAG, l[1]);
                is(1, x.state(6));
            }
            for (int[] l : apart) {
                x.change(0, LAG, l[0]);
                x.change(1, LAG, l[1]);
                is(0, x.state(6));
            }
            if (right < 2) x.change(right, RIGHT, 1);
        }
    }

    private static void pairs() {
        says("PAIRS: how many two of all do.");
        int[] due = {0, 0, 1, 3, 6, 10, 15};
        for (int n = 0; n < 7; n++) is(due[n], noons(n).state(6));
        Run x = noons(6);
        x.change(5, LAG, 6);
        is(10, x.state(6));
        x.change(4, LAG, 1);
        is(11, x.state(6));
        x.change(0, RIGHT, 1);
        is(11, x.state(6));
        for (int k = 0; k < 6; k++) x.change(k, LAG, 6 * k);
        is(0, x.state(6));
    }

    private static void sets() {
        says("set: WORTH what it PAYS; if that is more than 0, it is RIGHT, and LAG 0.");
        int[][] lagWorth = {{53, 1}, {54, 0}, {55, 0}, {99, 0}, {0, 9}, {5, 9}, {6, 8}};
        for (int[] l : lagWorth) {
            Run x = one(NOON, l[0], 0);
            is(l[1], acted(x, 1));
            is(l[1] > 0 ? 1 : 0, x.dialOf(0, RIGHT));
            is(l[1] > 0 ? 0 : l[0], x.dialOf(0, LAG));
            is(1, x.state(0));
            is(l[1], x.state(2));
            is(0, acted(x, 1));
            is(2, x.state(0));
        }
        Run y = one(NOON, 0, 0);
        y.change(0, RIGHT, 1);
        y.change(0, LAG, 7);
        is(0, acted(y, 1));
        is(7, y.dialOf(0, LAG));
        is(1, y.dialOf(0, RIGHT));
    }

    private static void argueHalf() {
        says("Quotients are cut towards 0.");
        says("LAG is half of the difference (cut; its LAG less that one's) more; WORTH 1 for each where that isn't 0.");
        int[][] hisOthersHalf = {
            {20, 15, 2}, {20, 16, 2}, {20, 17, 1}, {20, 18, 1}, {20, 19, 0}, {20, 20, 0}, {20, 21, 0}, {20, 22, -1},
            {20, 23, -1}, {20, 24, -2}, {20, 25, -2}, {0, 99, -49}, {99, 0, 49}, {0, 1, 0}, {1, 0, 0}, {0, 2, -1},
            {2, 0, 1}, {98, 99, 0}, {99, 98, 0}, {97, 99, -1}, {99, 97, 1}, {99, 99, 0}, {0, 0, 0}};
        for (int[] l : hisOthersHalf) {
            Run x = ruled(one(NOON, l[0], 0), "dial argue;");
            x.dial(NOON, l[1], 0, 0);
            is(l[2] == 0 ? 0 : 1, acted(x, 1));
            is(l[0], x.dialOf(0, LAG));
            is(l[1] + l[2], x.dialOf(1, LAG));
        }
        Run y = ruled(one(NOON, 50, 0), "dial argue;");
        for (int k = 1; k < 6; k++) y.dial(NOON, 10 * k, 0, 1);
        is(4 + 3, acted(y, 1));
        int[] due = {50, 30, 35, 40, 45, 50};
        for (int k = 0; k < 6; k++) is(due[k], y.dialOf(k, LAG));
    }

    private static void argueNear() {
        says("argue: each other that isn't RIGHT, of its SPOT or one next to it, by numbers");
        for (int at = 0; at < 6; at++) {
            for (int other = 0; other < 6; other++) {
                Run x = ruled(one(NOON, 40, at), "dial argue;");
                x.dial(NOON, 10, 0, other);
                boolean near = other == at || other == at - 1 || other == at + 1;
                is(near ? 1 : 0, acted(x, 1));
                is(near ? 25 : 10, x.dialOf(1, LAG));
                is(40, x.dialOf(0, LAG));
            }
        }
    }

    private static void argueRight() {
        says("argue: each other that isn't RIGHT");
        Run x = ruled(one(NOON, 40, 2), "dial argue;");
        x.dial(NOON, 10, 0, 2);
        x.dial(NOON, 70, 0, 2);
        x.change(1, RIGHT, 1);
        is(1, acted(x, 1));
        is(10, x.dialOf(1, LAG));
        is(55, x.dialOf(2, LAG));
        x.change(2, RIGHT, 1);
        is(0, acted(x, 1));
        x.change(0, LAG, 90);
        is(1, acted(x, 3));
        is(73, x.dialOf(0, LAG));
        is(0, acted(one(NOON, 40, 2), 0));
        is(0, acted(ruled(one(NOON, 40, 2), "dial argue;"), 1));
    }

    private static void keeps() {
        says("keep: nothing.");
        Run x = ruled(one(NOON, 40, 2), "dial keep;");
        x.dial(NOON, 10, 0, 2);
        for (int act = 0; act < 3; act++) is(0, acted(x, act));
        is(40, x.dialOf(0, LAG));
        is(10, x.dialOf(1, LAG));
        is(0, x.state(4));
        is(3, x.state(0));
    }

    private static void halfOfPairs() {
        says("(2) Half of PAIRS then is WORTH so much more.");
        int[] due = {0, 0, 0, 1, 3, 5, 7};
        for (int n = 0; n < 7; n++) is(due[n], ruled(noons(n), "dial keep;").chime());
        Run x = ruled(noons(3), "dial keep;");
        x.change(1, LAG, 5);
        x.change(2, LAG, 10);
        is(1, x.chime());
        x.change(2, LAG, 11);
        is(0, x.chime());
        Run y = noons(3);
        y.change(1, LAG, 3);
        y.change(2, LAG, 12);
        is(1, y.state(6));
        is(7 + 1, acted(y, 3));
        is(3, y.state(6));
    }

    private static void slipsTo99() {
        says("LAG of each that isn't RIGHT is what it SLIPS more (99 at most");
        int[][] skyWallLagDue = {
            {2, 1, 97, 98}, {2, 1, 98, 99}, {2, 1, 99, 99}, {0, 9, 79, 98}, {0, 9, 80, 99}, {0, 9, 81, 99}, {0, 9, 99, 99}};
        for (int[] s : skyWallLagDue) {
            Run x = ruled(one(LOW, s[2], 0), "dial keep;");
            x.sky(0, s[0]);
            x.spot(0, 0, s[1]);
            x.chime();
            is(s[3], x.dialOf(0, LAG));
            x.anew();
            x.change(0, LAG, s[2]);
            x.change(0, RIGHT, 1);
            x.chime();
            is(s[2], x.dialOf(0, LAG));
        }
    }

    private static void slipsAsItBegins() {
        says("by all as (3) begins). CHIME is 1 more.");
        Run x = ruled(one(GUILD, 0, 1), "dial keep;");
        x.dial(LOW, 0, 0, 2);
        int[] lags = {11, 22, 33, 44, 55, 68, 81, 94, 99};
        for (int lag : lags) {
            x.chime();
            is(lag, x.dialOf(1, LAG));
        }
        Run y = ruled(one(LOW, 0, 0), "dial keep;");
        y.spot(0, 0, 4);
        y.sky(0, 3);
        y.sky(1, 0);
        y.chime();
        is(6, y.dialOf(0, LAG));
        y.chime();
        is(15, y.dialOf(0, LAG));
    }

    private static void dialOf() {
        says("Of a DIAL: what = 0 KIND, 1 LAG");
        for (int n = 1; n < 7; n++) {
            Run x = noons(n);
            int last = n - 1;
            for (int what : new int[] {0, 4, 9}) takes(x, 0, last, k -> x.dialOf(k, what));
            takes(x, 0, 9, what -> x.dialOf(last, what));
        }
        Run none = new Run();
        for (int what = 0; what < 10; what++) {
            int w = what;
            refuses(none, BAD, () -> none.dialOf(0, w));
        }
        Run y = full();
        refuses(y, BAD, () -> y.dialOf(5, 10));
        for (int what = 0; what < 10; what++) {
            int w = what;
            asks(y, y.dialOf(3, w), () -> y.dialOf(3, w));
        }
    }

    private static void change() {
        says("LAG (what 1), PRIDE (2), SPOT (3), RIGHT (4: 0, 1) of a DIAL becomes v: what it was. BAD.");
        Run x = full();
        int[] most = {0, 99, 9, 5, 1};
        for (int what = 1; what < 5; what++) {
            int w = what;
            for (int k : new int[] {0, 4}) takes(x, 0, most[w], v -> x.change(k, w, v));
            takes(x, 0, 4, k -> x.change(k, w, 1));
        }
        takes(x, 1, 4, what -> x.change(2, what, 1));
        for (int what : new int[] {0, 5, 9}) refuses(x, BAD, () -> x.change(2, what, 0));
        for (int what = 1; what < 5; what++) {
            int was = x.dialOf(3, what);
            for (int v : new int[] {most[what], 0, 1, most[what] - 1, most[what]}) {
                is(was, x.change(3, what, v));
                is(v, x.dialOf(3, what));
                was = v;
            }
        }
        is(SLIT, x.dialOf(3, 0));
        Run none = new Run();
        refuses(none, BAD, () -> none.change(0, 1, 0));
    }

    private static void remake() {
        says("A DIAL becomes one of another KIND (1 to 5): the KIND that it was. BAD.");
        Run x = full();
        takes(x, 1, 5, kind -> x.remake(0, kind));
        takes(x, 1, 5, kind -> x.remake(4, kind));
        takes(x, 0, 4, k -> x.remake(k, 2));
        refuses(x, BAD, () -> x.remake(5, 0));
        int was = LOW;
        for (int kind : new int[] {NOON, SLIT, SLIT, TALL, GUILD, LOW}) {
            is(was, x.remake(2, kind));
            is(kind, x.dialOf(2, 0));
            was = kind;
        }
        int lag = x.dialOf(2, LAG);
        x.change(2, RIGHT, 1);
        x.remake(2, NOON);
        is(1, x.dialOf(2, RIGHT));
        is(lag, x.dialOf(2, LAG));
        is(2, x.dialOf(2, PRIDE));
        is(2, x.dialOf(2, SPOT));
    }

    private static void spotOf() {
        says("Of a SPOT: what = 0 WALL, 1 BENCH, 2 SHADE now. BAD.");
        Run x = full();
        for (int what = 0; what < 3; what++) {
            int w = what;
            takes(x, 0, 5, f -> x.spotOf(f, w));
            asks(x, x.spotOf(5, w), () -> x.spotOf(5, w));
        }
        for (int f : new int[] {0, 5}) takes(x, 0, 2, what -> x.spotOf(f, what));
        refuses(x, BAD, () -> x.spotOf(6, 3));
        refuses(x, BAD, () -> x.spot(6, 2, 10));
    }

    private static void anew() {
        says("CHIME is 0 again, SCORE 0, none is RIGHT (LAGS stay): what CHIME was.");
        Run x = noons(6);
        is(0, x.anew());
        for (int k = 0; k < 6; k++) {
            x.change(k, LAG, 99 - k);
            x.change(k, RIGHT, 1);
        }
        x.ends(16);
        is(0, x.anew());
        is(0, x.state(4));
        chimes(x, 16);
        is(1, x.state(3));
        x.seed(8);
        is(16, x.anew());
        for (int w : new int[] {0, 2, 3, 4}) is(0, x.state(w));
        for (int k = 0; k < 6; k++) is(99 - k, x.dialOf(k, LAG));
        is(16, x.state(1));
        is(8, x.seed(0));
        Run y = full();
        int rights = y.state(4);
        holds(rights != 0);
        is(1, y.anew());
        is(1, y.many(3));
        is(2, y.many(1));
        is(2, y.many(4));
        is(4, y.many(5));
        is(0, new Run().anew());
    }

    private static void state() {
        says("What = 0 CHIME, 1 END, 2 SCORE, 3 1 if it is OVER, else 0, 4 DIALS that are RIGHT, as a set, 5 the SKY of CHIME, 6 PAIRS. BAD.");
        for (Run x : new Run[] {new Run(), full(), over(square())}) {
            takes(x, 0, 6, x::state);
            for (int what = 0; what < 7; what++) {
                int w = what;
                asks(x, x.state(w), () -> x.state(w));
            }
        }
        Run y = noons(6);
        for (int k = 0; k < 6; k++) {
            y.change(k, RIGHT, 1);
            is(1 << k, y.state(4));
            y.change(k, RIGHT, 0);
        }
        for (int k = 0; k < 6; k++) y.change(k, RIGHT, 1);
        is(63, y.state(4));
    }

    private static void chimeOver() {
        says("A CHIME goes by as in THE REST: what it was WORTH. STATE: it is OVER.");
        Run x = over(full());
        refuses(x, STATE, x::chime);
        x.ends(4);
        is(2, x.state(0));
        holds(x.chime() >= 0);
        holds(x.chime() >= 0);
        refuses(x, STATE, x::chime);
        Run y = new Run();
        for (int c = 0; c < 12; c++) is(0, y.chime());
        refuses(y, STATE, y::chime);
    }
}
