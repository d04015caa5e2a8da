import java.util.Arrays;

/** Sundials in the shade of each other. What each call does and answers stands in ../shared/DOC.md. */
public final class DialSquare {
    public static final int BAD = -1, FULL = -2, NONE = -3, STATE = -4;

    private static final int NO_ROW = -9, NOTHING = -11, OUTSIDE = -12, OTHER = -13, BELOW = -14, PARTED = -15;

    private static final int DIALS = 6, SPOTS = 6, SKIES = 16, REPORTS = 6, SHEETS = 4;
    private static final int MOST_LAG = 99, MOST_PRIDE = 9, LAST_END = 16, LATE_LAG = 50, AGREED = 5;
    private static final int MOST_PLAN = 4, MOST_ITEMS = 40, MOST_TAKEN = 20, MOST_TRACE = 30;
    private static final int TAPE = 200, MOST_RULES = 8, MOST_OPEN = 3, MOST_DIGITS = 4;
    private static final int STRANGERS = 500, MARKS = 1 + 2 * DIALS;

    private static final int DIAL = 0, NOON = 1, TALL = 2, GUILD = 3, LOW = 4, SLIT = 5;
    private static final int KIND = 0, LAG = 1, PRIDE = 2, SPOT = 3, RIGHT = 4;
    private static final int WALL = 0, BENCH = 1;
    private static final int BEHIND = 0, ASKED = 1, LEAST = 2, MOST = 3;
    private static final int SET = 0, ARGUE = 2;
    private static final int MISSING = -1, BOOLEANS = 4;
    private static final int A_DIAL = 0, A_ROW = 1, EMPTY = 2;

    // Words of a text: a NUMBER is its own value, the NAMES and signs are counted from FACT on, as they stand in WORDS.
    // A condition is kept in these, too: VALUES first, then what is done with the latest two (or one).
    private static final String WORDS =
            "chime lag pride sun number < = > not and or if ( ) ; set keep argue dial noon tall guild low slit";
    private static final int FACT = 10000, LESS = 10005, SAME = 10006, MORE = 10007, NOT = 10008, AND = 10009;
    private static final int OR = 10010, IF = 10011, OPENING = 10012, CLOSING = 10013, SEMICOLON = 10014;
    private static final int FIRST_DO = 10015, FIRST_KIND = 10018, UNKNOWN = -1, END_OF_TEXT = -2;
    private static final int SINGLE = 0, LETTERS = 1, DIGITS = 2;

    private final Square now;
    private final Square kept;
    private final Square trial;
    private final int[] marks = new int[MARKS];
    private final Plans plans;
    private final RuleText text = new RuleText();
    private final Host host = new Host();
    private boolean isKept;

    public DialSquare() {
        Dial[] kinds = {new Dial(), new Noon(), new Tall(), new Guild(), new Low(), new Slit()};
        Rules none = new Rules(0, new int[0], new int[0], new int[1], new int[0]);
        now = new Square(kinds, none);
        kept = new Square(kinds, none);
        trial = new Square(kinds, none);
        plans = new Plans(trial);
    }

    // ---- the square, dials

    public int dial(int kind, int lag, int pride, int spot) {
        if (!isIn(kind, NOON, SLIT) || !isIn(lag, 0, MOST_LAG)) return BAD;
        if (!isIn(pride, 0, MOST_PRIDE) || !isSpot(spot)) return BAD;
        if (now.count >= DIALS) return FULL;
        return now.put(kind, lag, pride, spot);
    }

    public int dialOf(int k, int what) {
        if (!now.has(k)) return BAD;
        if (isIn(what, KIND, RIGHT)) return now.dials[k][what];
        switch (what) {
            case 5: return now.shadesOf(k);
            case 6: return now.slipsOf(k);
            case 7: return now.paysOf(k);
            case 8: return now.mayBeSet(k) ? 1 : 0;
            case 9: return now.willOf(k);
            default: return BAD;
        }
    }

    public int change(int k, int what, int v) {
        if (!now.has(k) || !isIn(what, LAG, RIGHT) || !isIn(v, 0, mostOf(what))) return BAD;
        int was = now.dials[k][what];
        now.dials[k][what] = v;
        return was;
    }

    private static int mostOf(int what) {
        switch (what) {
            case LAG: return MOST_LAG;
            case PRIDE: return MOST_PRIDE;
            case SPOT: return SPOTS - 1;
            default: return 1;
        }
    }

    public int remake(int k, int kind) {
        if (!now.has(k) || !isIn(kind, NOON, SLIT)) return BAD;
        int was = now.dials[k][KIND];
        now.dials[k][KIND] = kind;
        return was;
    }

    public int sky(int chime, int v) {
        if (!isIn(chime, 0, SKIES - 1) || !isIn(v, 0, 15)) return BAD;
        int was = now.skies[chime];
        now.skies[chime] = v;
        return was;
    }

    public int spot(int f, int what, int v) {
        if (!isSpot(f) || !isIn(what, WALL, BENCH) || !isIn(v, 0, 9)) return BAD;
        int was = now.spots[f][what];
        now.spots[f][what] = v;
        return was;
    }

    public int spotOf(int f, int what) {
        if (!isSpot(f) || !isIn(what, 0, 2)) return BAD;
        if (what <= BENCH) return now.spots[f][what];
        now.measureShades();
        return now.shades[f];
    }

    public int ends(int v) {
        if (!isIn(v, 1, LAST_END)) return BAD;
        if (v < now.chime) return STATE;
        int was = now.end;
        now.end = v;
        return was;
    }

    public int anew() {
        int was = now.chime;
        now.chime = 0;
        now.score = 0;
        for (int k = 0; k < now.count; k++) now.dials[k][RIGHT] = 0;
        return was;
    }

    public int state(int what) {
        switch (what) {
            case 0: return now.chime;
            case 1: return now.end;
            case 2: return now.score;
            case 3: return now.isOver() ? 1 : 0;
            case 4: return now.rightSet();
            case 5: return now.skyAt(now.chime);
            case 6: return now.pairs();
            default: return BAD;
        }
    }

    // ---- the rules

    public int feed(long eight, int n) {
        if (!isIn(n, 1, 8)) return BAD;
        if (text.length > TAPE - n) return FULL;
        return text.append(eight, n);
    }

    public int rules() {
        boolean stands = text.read();
        text.length = 0;
        if (!stands) return -100 - text.fault();
        now.rules = text.told();
        return now.rules.count;
    }

    // ---- chimes

    public int chime() {
        return now.isOver() ? STATE : now.rest(1);
    }

    public int on(int n) {
        if (!isIn(n, 0, LAST_END)) return BAD;
        trial.copyFrom(now);
        return trial.rest(n);
    }

    public int when(int k) {
        if (!now.has(k)) return BAD;
        if (now.isRight(k)) return NONE;
        trial.copyFrom(now);
        for (int c = now.chime; c < now.end; c++) {
            trial.rest(1);
            if (trial.isRight(k)) return c;
        }
        return NONE;
    }

    public int prideFor(int k) {
        return now.has(k) ? dearest(k, PRIDE) : BAD;
    }

    public int spotFor(int k) {
        return now.has(k) ? dearest(k, SPOT) : BAD;
    }

    /** The least PRIDE or SPOT of a DIAL with which THE REST is WORTH most. */
    private int dearest(int k, int what) {
        trial.copyFrom(now);
        trial.mark(marks);
        int best = 0, most = -1;
        for (int v = 0; v <= mostOf(what); v++) {
            trial.back(marks);
            trial.dials[k][what] = v;
            int worth = trial.rest(LAST_END);
            if (worth > most) {
                most = worth;
                best = v;
            }
        }
        return best;
    }

    // ---- which is late, the middle one, knots, seats

    public int late(int k) {
        if (!now.has(k)) return BAD;
        trial.copyFrom(now);
        for (int c = now.chime; c <= LAST_END; c++) {
            if (trial.dials[k][LAG] >= LATE_LAG) return c;
            if (trial.isOver()) return NONE;
            trial.rest(1);
        }
        return NONE;
    }

    public int middle() {
        int middle = NONE, least = 0;
        for (int k = 0; k < now.count; k++) {
            int apart = now.apartFromAll(k);
            if (middle == NONE || apart < least) {
                least = apart;
                middle = k;
            }
        }
        return middle;
    }

    public int knots(int what) {
        if (what == -1) return countKnots();
        return now.has(what) ? now.knotOf(what) : BAD;
    }

    /** Each KNOT is counted by the least DIAL in it. */
    private int countKnots() {
        int knots = 0;
        for (int k = 0; k < now.count; k++) {
            int knot = now.knotOf(k);
            if (knot != 0 && (knot & ((1 << k) - 1)) == 0) knots++;
        }
        return knots;
    }

    public int seats(int most, int what) {
        if (!isIn(most, 0, 99) || !isIn(what, 0, 1)) return BAD;
        int open = spotsInShade(most);
        int best = 0, benches = 0;
        for (int set = 0; set < 1 << SPOTS; set++) {
            boolean fits = (set & ~open) == 0 && (set & set << 1) == 0;
            if (fits && benchesOf(set) > benches) {
                benches = benchesOf(set);
                best = set;
            }
        }
        return what == 0 ? benches : best;
    }

    private int spotsInShade(int most) {
        now.measureShades();
        int set = 0;
        for (int f = 0; f < SPOTS; f++) {
            if (now.shades[f] <= most) set |= 1 << f;
        }
        return set;
    }

    private int benchesOf(int set) {
        int benches = 0;
        for (int f = 0; f < SPOTS; f++) {
            if ((set >> f & 1) != 0) benches += now.spots[f][BENCH];
        }
        return benches;
    }

    // ---- plans

    public int best(int n) {
        if (!isIn(n, 0, MOST_PLAN)) return BAD;
        plans.look(now, n, 0);
        return plans.most;
    }

    public int ith(int n, int i) {
        if (!isIn(n, 0, MOST_PLAN) || !isIn(i, 0, MOST_PLAN - 1)) return BAD;
        plans.look(now, n, 0);
        return i < plans.steps ? plans.first[i] : NONE;
    }

    public int ways(int n) {
        if (!isIn(n, 0, MOST_PLAN)) return BAD;
        plans.look(now, n, 0);
        return plans.many;
    }

    public int order(int n, int dials) {
        if (!isIn(n, 0, MOST_PLAN) || !isSetOfDials(dials)) return BAD;
        plans.look(now, n, dials);
        return plans.fewest;
    }

    public int bars(int n, int dials) {
        if (!isIn(n, 0, MOST_PLAN) || !isSetOfDials(dials)) return BAD;
        plans.look(now, n, dials);
        int barred = dials & ~plans.everRight;
        for (int k = 0; k < now.count; k++) {
            if ((barred >> k & 1) != 0) return k;
        }
        return NONE;
    }

    private boolean isSetOfDials(int set) {
        return isIn(set, 0, (1 << now.count) - 1);
    }

    // ---- a game, strangers, lots

    public int game(int n) {
        return isIn(n, 1, MOST_PLAN) ? plans.valueOf(now, n) : BAD;
    }

    public int play(int n) {
        if (!isIn(n, 1, MOST_PLAN)) return BAD;
        if (now.isOver()) return NONE;
        plans.valueOf(now, n);
        return plans.opening;
    }

    public int report(int k, int asked, int least, int most) {
        if (!isIn(k, 0, 15) || !isIn(asked, 0, 1)) return BAD;
        if (!isIn(least, 0, MOST_LAG) || !isIn(most, least, MOST_LAG)) return BAD;
        if (now.reportCount >= REPORTS) return FULL;
        return now.putReport(k, asked, least, most);
    }

    public int forget() {
        int was = now.reportCount;
        now.reportCount = 0;
        return was;
    }

    public int lone(int what) {
        if (!isIn(what, 0, 3)) return BAD;
        int fit = 0, first = NONE;
        for (int i = 0; i < STRANGERS; i++) {
            if (missedBy(i) == 0) {
                if (fit == 0) first = i;
                fit++;
            }
        }
        if (what == 0) return fit;
        if (fit == 0) return NONE;
        return partOfStranger(first, what);
    }

    public int liar() {
        int alone = 0;
        for (int i = 0; i < STRANGERS; i++) {
            int missed = missedBy(i);
            if (missed == 0) return NONE;
            if (Integer.bitCount(missed) == 1) alone |= missed;
        }
        for (int r = 0; r < now.reportCount; r++) {
            if ((alone >> r & 1) != 0) return r;
        }
        return NONE;
    }

    /** LONE DIALS are counted through by KIND, in it by SHADE, in it by LAG. */
    private static int partOfStranger(int i, int what) {
        switch (what) {
            case 1: return i / 100 + 1;
            case 2: return i / 10 % 10;
            default: return i % 10 * 10;
        }
    }

    private int missedBy(int i) {
        return now.missedBy(partOfStranger(i, 1), partOfStranger(i, 2), partOfStranger(i, 3));
    }

    public int seed(int v) {
        int was = now.z;
        now.z = v;
        return was;
    }

    public int lot() {
        return now.isOver() ? STATE : now.byLot(1);
    }

    public int times(int n, int v) {
        if (!isIn(n, 1, 40) || !isIn(v, 0, 999)) return BAD;
        trial.copyFrom(now);
        trial.mark(marks);
        int times = 0;
        for (int i = 0; i < n; i++) {
            trial.back(marks);
            if (trial.byLot(LAST_END) >= v) times++;
        }
        return times;
    }

    // ---- rows

    public int prove(int n) {
        if (!isIn(n, 0, MOST_PLAN)) return BAD;
        plans.look(now, n, 0);
        return plans.writeRows(now);
    }

    public int row(int k, int what) {
        return plans.hasRow(k, what) ? plans.rows[k][what] : NO_ROW;
    }

    public int alterRow(int k, int what, int v) {
        if (!plans.hasRow(k, what)) return NO_ROW;
        int was = plans.rows[k][what];
        plans.rows[k][what] = v;
        return was;
    }

    public int judge() {
        return plans.readRows(now);
    }

    // ---- the host

    public int sheet(int sheet, int sort, int n) {
        if (!isSheet(sheet) || !isIn(sort, MISSING, BOOLEANS)) return BAD;
        if (sort == MISSING) return host.makeSheet(sheet, MISSING, 0);
        if (n > MOST_ITEMS) return BAD;
        return n < 0 ? BELOW : host.makeSheet(sheet, sort, n);
    }

    public int write(int sheet, int i, int v) {
        if (!isSheet(sheet)) return BAD;
        if (host.sorts[sheet] == MISSING) return NOTHING;
        if (!host.hasItem(sheet, i)) return OUTSIDE;
        host.items[sheet][i] = narrowed(v, host.sorts[sheet]);
        return 1;
    }

    /** Longs too fit an int here: only ints are written, and of them the lowest 32 bits are asked. */
    private static int narrowed(int v, int sort) {
        switch (sort) {
            case 0: return (byte) v;
            case 1: return (short) v;
            case BOOLEANS: return v != 0 ? 1 : 0;
            default: return v;
        }
    }

    public int item(int sheet, int sort, int i) {
        if (!isSheet(sheet) || !isIn(sort, 0, BOOLEANS)) return BAD;
        int refusal = host.refusalAs(sheet, sort);
        if (refusal != 0) return refusal;
        return host.hasItem(sheet, i) ? host.items[sheet][i] : OUTSIDE;
    }

    public int goAll(int sheet, int i, int n) {
        if (!isSheet(sheet) || !isIn(n, 0, MOST_TAKEN)) return BAD;
        int refusal = host.refusalAs(sheet, 0);
        if (refusal != 0) return refusal;
        int worth = 0;
        for (int j = 0; j < n; j++) {
            if (!host.hasItem(sheet, i + j)) return OUTSIDE;
            int act = host.items[sheet][i + j];
            if (now.isAct(act) && !now.isOver()) worth += now.goBy(act);
        }
        return worth;
    }

    public int wouldBe(int sheet, int i, int n) {
        if (!isSheet(sheet) || !isIn(n, 0, MOST_TAKEN)) return BAD;
        int refusal = host.refusalAs(sheet, 0);
        if (refusal != 0) return refusal;
        trial.copyFrom(now);
        int worth = 0;
        for (int j = 0; j < n; j++) {
            if (!host.hasItem(sheet, i + j)) return OUTSIDE;
            int act = host.items[sheet][i + j];
            if (!trial.isAct(act) || trial.isOver()) return STATE;
            worth += trial.goBy(act);
        }
        return worth;
    }

    public int shelf(int shelf, int what, int n) {
        if (!isSheet(shelf) || !isIn(what, A_DIAL, EMPTY)) return BAD;
        if (what == A_DIAL && !now.has(n) || what == A_ROW && !isSheet(n)) return BAD;
        host.fillShelf(shelf, what, n);
        return 1;
    }

    public int taken(int shelf, int as) {
        if (!isSheet(shelf) || !isIn(as, DIAL, SLIT) && !isIn(as, 10, 14)) return BAD;
        if (host.held[shelf] == A_ROW) return as - 10 == host.things[shelf] ? host.sizes[shelf] : OTHER;
        if (!holdsDial(shelf)) return NOTHING;
        int k = host.things[shelf];
        return as <= SLIT && isUnder(now.dials[k][KIND], as) ? k : OTHER;
    }

    public int act(int shelf, int act, int x) {
        host.clearTrace();
        if (!isSheet(shelf) || !isIn(act, 0, 3) || !holdsDial(shelf)) return 0;
        int k = host.things[shelf];
        host.number = k;
        host.spot = now.dials[k][SPOT];
        Dial thing = now.kindOf(k);
        int answer;
        switch (act) {
            case 0:
                answer = thing.points(host, x);
                break;
            case 1:
                answer = thing.slants(host, x);
                break;
            case 2:
                answer = thing.shares(host, x);
                break;
            default:
                answer = thing.tells(host, x);
        }
        return host.parted ? PARTED : answer;
    }

    private boolean holdsDial(int shelf) {
        return host.held[shelf] == A_DIAL && now.has(host.things[shelf]);
    }

    public int trace(int i) {
        return isIn(i, 0, host.traced - 1) ? host.bodies[i] : NONE;
    }

    public int many(int what) {
        switch (what) {
            case 0: return now.count;
            case 1: return now.rules.count;
            case 2: return Integer.bitCount(now.rightSet());
            case 3: return now.reportCount;
            case 4: return plans.rowCount;
            case 5: return text.length;
            case 6: return host.traced;
            default: return BAD;
        }
    }

    // ---- kept

    public int keep() {
        kept.copyFrom(now);
        isKept = true;
        return 1;
    }

    public int again() {
        if (!isKept) return NONE;
        now.copyFrom(kept);
        return now.count;
    }

    private static boolean isIn(int v, int least, int most) {
        return v >= least && v <= most;
    }

    private static boolean isSpot(int f) {
        return isIn(f, 0, SPOTS - 1);
    }

    /** Of SHEETS and of SHELVES there are as many. */
    private static boolean isSheet(int sheet) {
        return isIn(sheet, 0, SHEETS - 1);
    }

    private static boolean isUnder(int kind, int above) {
        return above == DIAL || kind == above || kind == GUILD && above == TALL || kind == SLIT && above == LOW;
    }

    /** KIND 0, above all others. Bodies tell the host their number as they begin. */
    private static class Dial {
        int shades(int sun, int chime) {
            return 4 - sun;
        }

        int slips(int shade, int cloud) {
            return shade + 1 > cloud ? shade + 1 - cloud : 0;
        }

        int points(Host host, int x) {
            host.begin(10);
            return x * 4 - host.number;
        }

        int slants(Host host, int x) {
            host.begin(11);
            return points(host, x) + 5 * host.spot;
        }

        int shares(Host host, int x) {
            host.begin(12);
            int parts = host.spot - host.number + 2;
            if (parts == 0) {
                host.parted = true;
                return 0;
            }
            return x % parts;
        }

        int tells(Host host, int x) {
            host.begin(13);
            int slant = slants(host, x);
            return slant ^ shares(host, x);
        }
    }

    private static final class Noon extends Dial {
        int shades(int sun, int chime) {
            return 2;
        }

        int slips(int shade, int cloud) {
            return 0;
        }

        int points(Host host, int x) {
            host.begin(20);
            return super.points(host, x) + 12;
        }
    }

    private static class Tall extends Dial {
        int shades(int sun, int chime) {
            return 2 * super.shades(sun, chime);
        }

        int slips(int shade, int cloud) {
            return super.slips(shade, cloud) / 2;
        }

        int slants(Host host, int x) {
            host.begin(30);
            return super.slants(host, x) ^ 9;
        }
    }

    private static final class Guild extends Tall {
        int shades(int sun, int chime) {
            return super.shades(sun, chime) + chime / 5;
        }

        int slips(int shade, int cloud) {
            int asTall = super.slips(shade, cloud);
            return asTall > 0 ? asTall - 1 : 0;
        }

        int points(Host host, int x) {
            host.begin(50);
            return super.points(host, x - 3);
        }

        int tells(Host host, int x) {
            host.begin(51);
            int asDial = super.tells(host, x);
            return asDial - slants(host, host.spot);
        }
    }

    private static class Low extends Dial {
        int shades(int sun, int chime) {
            return 1;
        }

        int slips(int shade, int cloud) {
            return super.slips(shade, cloud) + shade;
        }

        int shares(Host host, int x) {
            host.begin(40);
            return super.shares(host, x) * 2;
        }
    }

    private static final class Slit extends Low {
        int shades(int sun, int chime) {
            return chime % 3 == 0 ? 0 : super.shades(sun, chime);
        }

        int slips(int shade, int cloud) {
            int asLow = super.slips(shade, cloud);
            return asLow < 9 ? asLow : 9;
        }

        int slants(Host host, int x) {
            host.begin(60);
            return 0 - super.slants(host, x);
        }

        int shares(Host host, int x) {
            host.begin(61);
            int asLow = super.shares(host, x);
            return asLow + points(host, host.number);
        }
    }

    /** All that is kept: DIALS, SPOTS, SKIES, THE RULES, REPORTS; and how a CHIME goes by. */
    private static final class Square {
        final int[][] dials = new int[DIALS][RIGHT + 1];
        final int[][] spots = new int[SPOTS][BENCH + 1];
        final int[] skies = new int[SKIES];
        final int[][] reports = new int[REPORTS][MOST + 1];
        int count;
        int chime;
        int end = 12;
        int score;
        int reportCount;
        int z = 1;
        Rules rules;
        /** SHADE of each SPOT as it was measured last. */
        final int[] shades = new int[SPOTS];
        private final int[] facts = new int[LESS - FACT];
        private final Dial[] kinds;

        Square(Dial[] kinds, Rules rules) {
            this.kinds = kinds;
            this.rules = rules;
            Arrays.fill(skies, 6);
        }

        void copyFrom(Square other) {
            for (int k = 0; k < DIALS; k++) System.arraycopy(other.dials[k], 0, dials[k], 0, RIGHT + 1);
            for (int f = 0; f < SPOTS; f++) System.arraycopy(other.spots[f], 0, spots[f], 0, BENCH + 1);
            for (int r = 0; r < REPORTS; r++) System.arraycopy(other.reports[r], 0, reports[r], 0, MOST + 1);
            System.arraycopy(other.skies, 0, skies, 0, SKIES);
            count = other.count;
            chime = other.chime;
            end = other.end;
            score = other.score;
            reportCount = other.reportCount;
            z = other.z;
            rules = other.rules;
        }

        /** Writes down what CHIMES move, for back(); SCORE and z go on. */
        void mark(int[] marks) {
            marks[0] = chime;
            for (int k = 0; k < count; k++) {
                marks[1 + k] = dials[k][LAG];
                marks[1 + DIALS + k] = dials[k][RIGHT];
            }
        }

        void back(int[] marks) {
            chime = marks[0];
            for (int k = 0; k < count; k++) {
                dials[k][LAG] = marks[1 + k];
                dials[k][RIGHT] = marks[1 + DIALS + k];
            }
        }

        int put(int kind, int lag, int pride, int spot) {
            int[] dial = dials[count];
            dial[KIND] = kind;
            dial[LAG] = lag;
            dial[PRIDE] = pride;
            dial[SPOT] = spot;
            dial[RIGHT] = 0;
            return count++;
        }

        int putReport(int behind, int asked, int least, int most) {
            int[] report = reports[reportCount];
            report[BEHIND] = behind;
            report[ASKED] = asked;
            report[LEAST] = least;
            report[MOST] = most;
            return reportCount++;
        }

        boolean has(int k) {
            return k >= 0 && k < count;
        }

        boolean isAct(int act) {
            return act >= 0 && act <= count;
        }

        boolean isRight(int k) {
            return dials[k][RIGHT] != 0;
        }

        boolean isOver() {
            return chime >= end;
        }

        Dial kindOf(int k) {
            return kinds[dials[k][KIND]];
        }

        int skyAt(int c) {
            return c >= 0 && c < SKIES ? skies[c] : 0;
        }

        int rightSet() {
            int set = 0;
            for (int k = 0; k < count; k++) {
                if (isRight(k)) set |= 1 << k;
            }
            return set;
        }

        int shadesOf(int k) {
            return kindOf(k).shades(skyAt(chime) / 4, chime);
        }

        void measureShades() {
            for (int f = 0; f < SPOTS; f++) shades[f] = spots[f][WALL];
            int sun = skyAt(chime) / 4;
            for (int k = 0; k < count; k++) {
                int next = dials[k][SPOT] + 1;
                if (next < SPOTS) shades[next] += kindOf(k).shades(sun, chime);
            }
        }

        int slipsOf(int k) {
            measureShades();
            return kindOf(k).slips(shades[dials[k][SPOT]], skyAt(chime) % 4);
        }

        int paysOf(int k) {
            int pays = 9 + dials[k][PRIDE] - dials[k][LAG] / 6;
            return isRight(k) || pays < 0 ? 0 : pays;
        }

        boolean agree(int j, int k) {
            return Math.abs(dials[j][LAG] - dials[k][LAG]) <= AGREED;
        }

        int pairs() {
            int pairs = 0;
            for (int j = 0; j < count; j++) {
                for (int k = j + 1; k < count; k++) {
                    if (agree(j, k)) pairs++;
                }
            }
            return pairs;
        }

        int apartFromAll(int k) {
            int apart = 0;
            for (int j = 0; j < count; j++) apart += Math.abs(dials[j][LAG] - dials[k][LAG]);
            return apart;
        }

        /** As many rounds as there are DIALS reach the far end of any KNOT. */
        int knotOf(int k) {
            if (isRight(k)) return 0;
            int knot = 1 << k;
            for (int round = 0; round < count; round++) {
                for (int j = 0; j < count; j++) {
                    if ((knot >> j & 1) != 0) knot |= closeTo(j);
                }
            }
            return knot;
        }

        private int closeTo(int j) {
            int close = 0;
            for (int k = 0; k < count; k++) {
                if (!isRight(k) && agree(j, k)) close |= 1 << k;
            }
            return close;
        }

        int willOf(int k) {
            facts[0] = chime;
            facts[1] = dials[k][LAG];
            facts[2] = dials[k][PRIDE];
            facts[3] = skyAt(chime) / 4;
            facts[4] = k;
            return rules.tell(dials[k][KIND], facts);
        }

        boolean mayBeSet(int k) {
            return paysOf(k) > 0 && willOf(k) == SET;
        }

        /** A CHIME goes by, ahead of it an ACT: what it is WORTH. */
        int goBy(int act) {
            int worth = 0;
            if (act >= 1 && act <= count) {
                int will = willOf(act - 1);
                if (will == SET) worth = setRight(act - 1);
                if (will == ARGUE) worth = arguedBy(act - 1);
            }
            worth += pairs() / 2;
            measureShades();
            slipAll();
            chime++;
            score += worth;
            return worth;
        }

        private int setRight(int k) {
            int pays = paysOf(k);
            if (pays > 0) {
                dials[k][RIGHT] = 1;
                dials[k][LAG] = 0;
            }
            return pays;
        }

        private int arguedBy(int k) {
            int worth = 0;
            for (int j = 0; j < count; j++) {
                boolean near = Math.abs(dials[j][SPOT] - dials[k][SPOT]) <= 1;
                int half = (dials[k][LAG] - dials[j][LAG]) / 2;
                if (j != k && near && !isRight(j) && half != 0) {
                    dials[j][LAG] += half;
                    worth++;
                }
            }
            return worth;
        }

        /** All slip by the SHADES as they were measured last. */
        private void slipAll() {
            int cloud = skyAt(chime) % 4;
            for (int k = 0; k < count; k++) {
                if (isRight(k)) continue;
                int lag = dials[k][LAG] + kindOf(k).slips(shades[dials[k][SPOT]], cloud);
                dials[k][LAG] = lag < MOST_LAG ? lag : MOST_LAG;
            }
        }

        private int restAct() {
            for (int k = 0; k < count; k++) {
                if (mayBeSet(k)) return k + 1;
            }
            return 0;
        }

        /** n CHIMES of THE REST go by (fewer, if it is OVER): what they are WORTH. */
        int rest(int n) {
            int worth = 0;
            for (int i = 0; i < n && !isOver(); i++) worth += goBy(restAct());
            return worth;
        }

        /** n CHIMES go by LOT (fewer, if it is OVER): what they are WORTH. */
        int byLot(int n) {
            int worth = 0;
            for (int i = 0; i < n && !isOver(); i++) {
                z = z * 1103515245 + 12345;
                worth += goBy((z >>> 16) % (count + 1));
            }
            return worth;
        }

        /** The REPORTS, as a set, that aren't so of a LONE DIAL. */
        int missedBy(int kind, int shade, int lagAtFirst) {
            int missed = 0, lag = lagAtFirst, shaded = 0;
            for (int c = 0; c < SKIES; c++) {
                missed |= missedBehind(c, lag, shaded);
                lag = Math.min(MOST_LAG, lag + kinds[kind].slips(shade, skies[c] % 4));
                shaded = Math.min(MOST_LAG, shaded + kinds[kind].shades(skies[c] / 4, c));
            }
            return missed;
        }

        private int missedBehind(int behind, int lag, int shaded) {
            int missed = 0;
            for (int r = 0; r < reportCount; r++) {
                if (reports[r][BEHIND] != behind) continue;
                int was = reports[r][ASKED] == 0 ? lag : shaded;
                if (was < reports[r][LEAST] || was > reports[r][MOST]) missed |= 1 << r;
            }
            return missed;
        }
    }

    /** THE RULES as they were told; they never change, so that squares can share them. */
    private static final class Rules {
        final int count;
        private final int[] kinds;
        private final int[] wills;
        /** Where in the code each RULE's condition starts, and where the last one ends. */
        private final int[] starts;
        private final int[] code;
        private final int[] stack = new int[16];

        Rules(int count, int[] kinds, int[] wills, int[] starts, int[] code) {
            this.count = count;
            this.kinds = kinds;
            this.wills = wills;
            this.starts = starts;
            this.code = code;
        }

        /** What the first RULE for such a DIAL tells. */
        int tell(int kind, int[] facts) {
            for (int r = 0; r < count; r++) {
                if (isUnder(kind, kinds[r]) && holds(starts[r], starts[r + 1], facts)) return wills[r];
            }
            return SET;
        }

        /** Code that is empty holds. No text that is taken needs more of the stack than 10. */
        private boolean holds(int start, int end, int[] facts) {
            int top = 0;
            for (int i = start; i < end && top < stack.length; i++) {
                int c = code[i];
                if (c < LESS) {
                    stack[top] = c < FACT ? c : facts[c - FACT];
                    top++;
                } else if (c == NOT && top >= 1) {
                    stack[top - 1] = 1 - stack[top - 1];
                } else if (c != NOT && top >= 2) {
                    top--;
                    int a = stack[top - 1], b = stack[top];
                    boolean compared = c == LESS ? a < b : c == SAME ? a == b : a > b;
                    boolean joined = c == AND ? (a & b) != 0 : (a | b) != 0;
                    stack[top - 1] = (c <= MORE ? compared : joined) ? 1 : 0;
                }
            }
            return top == 0 || stack[0] != 0;
        }
    }

    /** THE TAPE, and the reader that makes RULES of it. */
    private static final class RuleText {
        int length;
        private final byte[] tape = new byte[TAPE];
        /** The NAMES, NUMBERS and other bytes of THE TAPE, by turns, and where they stand; the end is one more. */
        private final int[] words = new int[TAPE + 1];
        private final int[] places = new int[TAPE + 1];
        /** The word at hand. What can't stand there stays at hand, so its place is the FAULT. */
        private int at;
        private final int[] kinds = new int[MOST_RULES];
        private final int[] wills = new int[MOST_RULES];
        private final int[] starts = new int[MOST_RULES + 1];
        private final int[] code = new int[TAPE];
        private int count;
        private int size;

        int append(long eight, int n) {
            for (int i = 0; i < n; i++) tape[length + i] = (byte) (eight >>> 8 * i);
            length += n;
            return length;
        }

        /** Whether THE TAPE tells RULES, which told() then makes. */
        boolean read() {
            cutWords();
            at = 0;
            count = 0;
            size = 0;
            for (int r = 0; r < MOST_RULES && words[at] != END_OF_TEXT; r++) {
                if (!readRule(r)) return false;
            }
            return words[at] == END_OF_TEXT;
        }

        int fault() {
            return places[at];
        }

        Rules told() {
            starts[count] = size;
            return new Rules(count, Arrays.copyOf(kinds, count), Arrays.copyOf(wills, count),
                    Arrays.copyOf(starts, count + 1), Arrays.copyOf(code, size));
        }

        private void cutWords() {
            int n = 0, from = 0;
            for (int row = 0; row < TAPE && from < length; row++) {
                int to = endOfRow(from);
                if (tape[from] != ' ') {
                    places[n] = from;
                    words[n] = sortOf(tape[from]) == DIGITS ? numberOf(from, to) : wordOf(from, to);
                    n++;
                }
                from = to;
            }
            places[n] = length;
            words[n] = END_OF_TEXT;
        }

        private int endOfRow(int from) {
            int sort = sortOf(tape[from]), to = from + 1;
            while (sort != SINGLE && to < length && sortOf(tape[to]) == sort) to++;
            return to;
        }

        private static int sortOf(int b) {
            if (b >= 'a' && b <= 'z') return LETTERS;
            return b >= '0' && b <= '9' ? DIGITS : SINGLE;
        }

        private int numberOf(int from, int to) {
            if (to - from > MOST_DIGITS) return UNKNOWN;
            int number = 0;
            for (int i = from; i < to; i++) number = 10 * number + tape[i] - '0';
            return number;
        }

        private int wordOf(int from, int to) {
            int which = FACT, start = 0;
            for (int i = 0; i <= WORDS.length(); i++) {
                if (i < WORDS.length() && WORDS.charAt(i) != ' ') continue;
                if (i - start == to - from && isWord(start, from, to)) return which;
                start = i + 1;
                which++;
            }
            return UNKNOWN;
        }

        private boolean isWord(int start, int from, int to) {
            for (int i = from; i < to; i++) {
                if (WORDS.charAt(start + i - from) != tape[i]) return false;
            }
            return true;
        }

        private boolean readRule(int r) {
            if (!isIn(words[at], FIRST_KIND, FIRST_KIND + SLIT)) return false;
            kinds[r] = words[at] - FIRST_KIND;
            starts[r] = size;
            at++;
            if (takes(IF) && !readCondition(0)) return false;
            if (!isIn(words[at], FIRST_DO, FIRST_DO + ARGUE)) return false;
            wills[r] = words[at] - FIRST_DO;
            at++;
            count++;
            return takes(SEMICOLON);
        }

        /** How many "(" are open is carried along, and keeps the calls from going deeper. */
        private boolean readCondition(int open) {
            if (!readAll(open)) return false;
            for (int i = 0; i < TAPE && takes(OR); i++) {
                if (!readAll(open)) return false;
                emit(OR);
            }
            return true;
        }

        private boolean readAll(int open) {
            if (!readOne(open)) return false;
            for (int i = 0; i < TAPE && takes(AND); i++) {
                if (!readOne(open)) return false;
                emit(AND);
            }
            return true;
        }

        private boolean readOne(int open) {
            boolean turned = false;
            for (int i = 0; i < TAPE && takes(NOT); i++) turned = !turned;
            boolean stands = words[at] == OPENING ? readOpened(open + 1) : readCompared();
            if (stands && turned) emit(NOT);
            return stands;
        }

        private boolean readOpened(int open) {
            if (open > MOST_OPEN) return false;
            at++;
            return readCondition(open) && takes(CLOSING);
        }

        /** A VALUE and the SIGN behind it are no end of the text, so that there is a word behind each. */
        private boolean readCompared() {
            int left = words[at];
            if (!isIn(left, 0, LESS - 1)) return false;
            at++;
            int sign = words[at];
            if (!isIn(sign, LESS, MORE)) return false;
            at++;
            int right = words[at];
            if (!isIn(right, 0, LESS - 1)) return false;
            at++;
            emit(left);
            emit(right);
            emit(sign);
            return true;
        }

        private boolean takes(int word) {
            if (words[at] != word) return false;
            at++;
            return true;
        }

        /** No sign of the code is emitted but for a word that was read, so there is room for all. */
        private void emit(int c) {
            if (size >= TAPE) return;
            code[size] = c;
            size++;
        }
    }

    /** PLANS, GAMES and ROWS, all tried out on a square that is there for trials. */
    private static final class Plans {
        final int[] first = new int[MOST_PLAN];
        int steps;
        int most;
        int many;
        /** The fewest ACTS by which the wanted ones are right, or NONE. */
        int fewest;
        int everRight;
        /** The ACT with which the last GAME's first one begins. */
        int opening;
        final int[][] rows = new int[MOST_PLAN][3];
        int rowCount;
        private final Square trial;
        private final int[] acts = new int[MOST_PLAN];
        private final int[][] marks = new int[MOST_PLAN][MARKS];
        private int deepest;
        private int wanted;

        Plans(Square trial) {
            this.trial = trial;
        }

        void look(Square now, int n, int wanted) {
            trial.copyFrom(now);
            this.wanted = wanted;
            deepest = n;
            steps = 0;
            most = 0;
            many = 0;
            fewest = NONE;
            everRight = 0;
            explore(0, 0, 0);
        }

        /** The lesser ACTS come first, so the first PLAN with the most WORTH is the FIRST. */
        private void explore(int depth, int worth, int told) {
            if (depth >= deepest || depth >= MOST_PLAN || trial.isOver()) {
                weigh(depth, worth, told);
                return;
            }
            trial.mark(marks[depth]);
            for (int act = 0; act <= trial.count; act++) {
                trial.back(marks[depth]);
                acts[depth] = act;
                explore(depth + 1, worth + trial.goBy(act), act == 0 ? told : told + 1);
            }
        }

        private void weigh(int depth, int worth, int told) {
            if (many == 0 || worth > most) {
                most = worth;
                many = 0;
                steps = depth;
                System.arraycopy(acts, 0, first, 0, depth);
            }
            if (worth == most) many++;
            int right = trial.rightSet();
            everRight |= right;
            if ((wanted & ~right) == 0 && (fewest == NONE || told < fewest)) fewest = told;
        }

        int valueOf(Square now, int n) {
            trial.copyFrom(now);
            deepest = n;
            return valueFrom(0);
        }

        private int valueFrom(int depth) {
            if (depth >= deepest || depth >= MOST_PLAN || trial.isOver()) return 0;
            trial.mark(marks[depth]);
            int value = 0;
            for (int act = 0; act <= trial.count; act++) {
                trial.back(marks[depth]);
                int v = trial.goBy(act) + valueFrom(depth + 1);
                boolean better = depth % 2 == 0 ? v > value : v < value;
                if (act == 0 || better) {
                    value = v;
                    if (depth == 0) opening = act;
                }
            }
            return value;
        }

        boolean hasRow(int k, int what) {
            return k >= 0 && k < rowCount && what >= 0 && what < 3;
        }

        /** ROWS of the FIRST of the BEST PLANS that look() found. */
        int writeRows(Square now) {
            trial.copyFrom(now);
            for (int k = 0; k < steps; k++) {
                rows[k][0] = first[k];
                rows[k][1] = trial.goBy(first[k]);
                rows[k][2] = trial.rightSet();
            }
            rowCount = steps;
            return rowCount;
        }

        int readRows(Square now) {
            trial.copyFrom(now);
            for (int k = 0; k < rowCount; k++) {
                int act = rows[k][0];
                if (!trial.isAct(act) || trial.isOver()) return k + 1;
                if (trial.goBy(act) != rows[k][1] || trial.rightSet() != rows[k][2]) return k + 1;
            }
            return 0;
        }
    }

    /** SHEETS, SHELVES, THE TRACE, and the thing whose ACT runs. */
    private static final class Host {
        final int[] sorts = {MISSING, MISSING, MISSING, MISSING};
        final int[] lengths = new int[SHEETS];
        final int[][] items = new int[SHEETS][MOST_ITEMS];
        final int[] held = {EMPTY, EMPTY, EMPTY, EMPTY};
        /** What a SHELF holds: a DIAL's number, or a row's sort. */
        final int[] things = new int[SHEETS];
        /** A row that is held stays as long as it was, whatever its SHEET becomes. */
        final int[] sizes = new int[SHEETS];
        final int[] bodies = new int[MOST_TRACE];
        int traced;
        int number;
        int spot;
        boolean parted;

        int makeSheet(int sheet, int sort, int n) {
            sorts[sheet] = sort;
            lengths[sheet] = n;
            Arrays.fill(items[sheet], 0);
            return 1;
        }

        boolean hasItem(int sheet, int i) {
            return i >= 0 && i < lengths[sheet];
        }

        /** Below 0, if a SHEET can't be taken for a sort. */
        int refusalAs(int sheet, int sort) {
            if (sorts[sheet] == MISSING) return NOTHING;
            return sorts[sheet] == sort ? 0 : OTHER;
        }

        void fillShelf(int shelf, int what, int n) {
            boolean missing = what == A_ROW && sorts[n] == MISSING;
            held[shelf] = missing ? EMPTY : what;
            things[shelf] = what == A_ROW ? sorts[n] : n;
            if (what == A_ROW) sizes[shelf] = lengths[n];
        }

        void clearTrace() {
            traced = 0;
            parted = false;
        }

        /** Behind what was parted by 0 no body runs any more. */
        void begin(int body) {
            if (parted || traced >= MOST_TRACE) return;
            bodies[traced] = body;
            traced++;
        }
    }
}
