import java.lang.reflect.Array;
import java.util.ArrayList;
import java.util.Arrays;
import java.util.List;
import java.util.function.Predicate;
import java.util.regex.Matcher;
import java.util.regex.Pattern;

/**
 * What ../shared/DOC.md asks, once more and in another way: squares that are copied, plans that are counted
 * through, conditions that are functions. ModelTest lets it and DialSquare answer the same calls.
 */
public final class Model {
    private static final List<String> KINDS = List.of("dial", "noon", "tall", "guild", "low", "slit");
    private static final List<String> DOES = List.of("set", "keep", "argue");
    private static final List<String> FACTS = List.of("chime", "lag", "pride", "sun", "number");
    private static final Pattern WORD = Pattern.compile(" *([a-z]+|[0-9]+|[^a-z0-9 ])", Pattern.DOTALL);

    private record Rule(int kind, Predicate<int[]> holds, int does) { }

    private static final class Fault extends RuntimeException {
        private static final long serialVersionUID = 1;
        final int place;
        Fault(int place) { this.place = place; }
    }

    private static final class D {
        int kind, lag, pride, spot;
        boolean right;
        D copy() {
            D d = new D();
            d.kind = kind; d.lag = lag; d.pride = pride; d.spot = spot; d.right = right;
            return d;
        }
    }

    private static final class S {
        List<D> dials = new ArrayList<>();
        int chime, end = 12, score, z = 1;
        int[] sky = new int[16];
        int[][] spot = new int[6][2];
        List<Rule> rules = new ArrayList<>();
        List<int[]> reports = new ArrayList<>();
        S() { Arrays.fill(sky, 6); }

        S copy() {
            S s = new S();
            for (D d : dials) s.dials.add(d.copy());
            s.chime = chime; s.end = end; s.score = score; s.z = z;
            s.sky = sky.clone();
            for (int f = 0; f < 6; f++) s.spot[f] = spot[f].clone();
            s.rules = new ArrayList<>(rules);
            s.reports = new ArrayList<>(reports);
            return s;
        }

        boolean over() { return chime >= end; }
        int skyNow() { return chime > 15 ? 0 : sky[chime]; }
        int shade(int f) {
            int sum = spot[f][0];
            for (D d : dials) if (d.spot + 1 == f) sum += shades(d.kind, skyNow() / 4, chime);
            return sum;
        }
        int slips(D d) { return slip(d.kind, shade(d.spot), skyNow() % 4); }
        int pays(D d) { return d.right ? 0 : Math.max(0, 9 + d.pride - d.lag / 6); }
        int will(int k) {
            D d = dials.get(k);
            int[] facts = {chime, d.lag, d.pride, skyNow() / 4, k};
            for (Rule r : rules) if (under(d.kind, r.kind) && r.holds.test(facts)) return r.does;
            return 0;
        }
        boolean may(int k) { return will(k) == 0 && pays(dials.get(k)) > 0; }
        int pairs() {
            int twice = 0;
            for (D a : dials) for (D b : dials) if (a != b && Math.abs(a.lag - b.lag) < 6) twice++;
            return twice / 2;
        }
        int rights() {
            int set = 0;
            for (int k = 0; k < dials.size(); k++) if (dials.get(k).right) set += 1 << k;
            return set;
        }
        int go(int act) {
            int worth = 0;
            if (act > 0) {
                D d = dials.get(act - 1);
                switch (will(act - 1)) {
                    case 0 -> {
                        worth = pays(d);
                        if (worth > 0) { d.right = true; d.lag = 0; }
                    }
                    case 2 -> {
                        for (D o : dials) {
                            if (o == d || o.right || Math.abs(o.spot - d.spot) > 1) continue;
                            int half = (d.lag - o.lag) / 2;
                            o.lag += half;
                            worth += half == 0 ? 0 : 1;
                        }
                    }
                    default -> { }
                }
            }
            worth += pairs() / 2;
            for (D d : dials) if (!d.right) d.lag = Math.min(99, d.lag + slips(d));
            chime++;
            score += worth;
            return worth;
        }
        int restAct() {
            for (int k = 0; k < dials.size(); k++) if (may(k)) return k + 1;
            return 0;
        }
        int rest(int n) {
            int worth = 0;
            while (n-- > 0 && !over()) worth += go(restAct());
            return worth;
        }
        int lotGo() {
            z = z * 1103515245 + 12345;
            return go((z >>> 16) % (dials.size() + 1));
        }
        int play(int[] plan) {
            int worth = 0;
            for (int act : plan) worth += go(act);
            return worth;
        }
    }

    private static int shades(int kind, int sun, int chime) {
        return switch (kind) {
            case 1 -> 2;
            case 2 -> 8 - 2 * sun;
            case 3 -> 8 - 2 * sun + chime / 5;
            case 4 -> 1;
            default -> chime % 3 == 0 ? 0 : 1;
        };
    }

    private static int slip(int kind, int shade, int cloud) {
        int plain = Math.max(0, shade + 1 - cloud);
        return switch (kind) {
            case 1 -> 0;
            case 2 -> plain / 2;
            case 3 -> Math.max(0, plain / 2 - 1);
            case 4 -> plain + shade;
            default -> Math.min(9, plain + shade);
        };
    }

    private static boolean under(int kind, int above) {
        return switch (above) {
            case 0 -> true;
            case 2 -> kind == 2 || kind == 3;
            case 4 -> kind == 4 || kind == 5;
            default -> kind == above;
        };
    }

    /** Things with real bodies, so that Java itself says which run and what stops them. */
    private static class Thing {
        final int n, a;
        final List<Integer> ran;
        Thing(int n, int a, List<Integer> ran) { this.n = n; this.a = a; this.ran = ran; }
        int points(int x) { ran.add(10); return x * 4 - n; }
        int slants(int x) { ran.add(11); return points(x) + 5 * a; }
        int shares(int x) { ran.add(12); return x % (a - n + 2); }
        int tells(int x) { ran.add(13); return slants(x) ^ shares(x); }
    }
    private static final class NoonThing extends Thing {
        NoonThing(int n, int a, List<Integer> ran) { super(n, a, ran); }
        @Override int points(int x) { ran.add(20); return super.points(x) + 12; }
    }
    private static class TallThing extends Thing {
        TallThing(int n, int a, List<Integer> ran) { super(n, a, ran); }
        @Override int slants(int x) { ran.add(30); return super.slants(x) ^ 9; }
    }
    private static final class GuildThing extends TallThing {
        GuildThing(int n, int a, List<Integer> ran) { super(n, a, ran); }
        @Override int points(int x) { ran.add(50); return super.points(x - 3); }
        @Override int tells(int x) { ran.add(51); return super.tells(x) - slants(a); }
    }
    private static class LowThing extends Thing {
        LowThing(int n, int a, List<Integer> ran) { super(n, a, ran); }
        @Override int shares(int x) { ran.add(40); return super.shares(x) * 2; }
    }
    private static final class SlitThing extends LowThing {
        SlitThing(int n, int a, List<Integer> ran) { super(n, a, ran); }
        @Override int slants(int x) { ran.add(60); return 0 - super.slants(x); }
        @Override int shares(int x) { ran.add(61); return super.shares(x) + points(n); }
    }

    private S s = new S();
    private S keptOne;
    private final List<Byte> tape = new ArrayList<>();
    private final List<int[]> rows = new ArrayList<>();
    private final Object[] sheets = new Object[4];
    /** An Integer is a DIAL by its number, an array a row. */
    private final Object[] shelves = new Object[4];
    private List<Integer> ran = new ArrayList<>();

    private boolean dialAt(int k) { return k >= 0 && k < s.dials.size(); }
    private static boolean out(int v, int least, int most) { return v < least || v > most; }

    public int dial(int kind, int lag, int pride, int spot) {
        if (out(kind, 1, 5) || out(lag, 0, 99) || out(pride, 0, 9) || out(spot, 0, 5)) return -1;
        if (s.dials.size() == 6) return -2;
        D d = new D();
        d.kind = kind; d.lag = lag; d.pride = pride; d.spot = spot;
        s.dials.add(d);
        return s.dials.size() - 1;
    }

    public int dialOf(int k, int what) {
        if (!dialAt(k)) return -1;
        D d = s.dials.get(k);
        return switch (what) {
            case 0 -> d.kind;
            case 1 -> d.lag;
            case 2 -> d.pride;
            case 3 -> d.spot;
            case 4 -> d.right ? 1 : 0;
            case 5 -> shades(d.kind, s.skyNow() / 4, s.chime);
            case 6 -> s.slips(d);
            case 7 -> s.pays(d);
            case 8 -> s.may(k) ? 1 : 0;
            case 9 -> s.will(k);
            default -> -1;
        };
    }

    public int change(int k, int what, int v) {
        if (!dialAt(k) || out(what, 1, 4) || out(v, 0, new int[] {0, 99, 9, 5, 1}[what])) return -1;
        D d = s.dials.get(k);
        int was = dialOf(k, what);
        if (what == 1) d.lag = v;
        if (what == 2) d.pride = v;
        if (what == 3) d.spot = v;
        if (what == 4) d.right = v == 1;
        return was;
    }

    public int remake(int k, int kind) {
        if (!dialAt(k) || out(kind, 1, 5)) return -1;
        int was = s.dials.get(k).kind;
        s.dials.get(k).kind = kind;
        return was;
    }

    public int sky(int chime, int v) {
        if (out(chime, 0, 15) || out(v, 0, 15)) return -1;
        int was = s.sky[chime];
        s.sky[chime] = v;
        return was;
    }

    public int spot(int f, int what, int v) {
        if (out(f, 0, 5) || out(what, 0, 1) || out(v, 0, 9)) return -1;
        int was = s.spot[f][what];
        s.spot[f][what] = v;
        return was;
    }

    public int spotOf(int f, int what) {
        if (out(f, 0, 5) || out(what, 0, 2)) return -1;
        return what == 2 ? s.shade(f) : s.spot[f][what];
    }

    public int ends(int v) {
        if (out(v, 1, 16)) return -1;
        if (v < s.chime) return -4;
        int was = s.end;
        s.end = v;
        return was;
    }

    public int anew() {
        int was = s.chime;
        s.chime = 0;
        s.score = 0;
        for (D d : s.dials) d.right = false;
        return was;
    }

    public int state(int what) {
        return switch (what) {
            case 0 -> s.chime;
            case 1 -> s.end;
            case 2 -> s.score;
            case 3 -> s.over() ? 1 : 0;
            case 4 -> s.rights();
            case 5 -> s.skyNow();
            case 6 -> s.pairs();
            default -> -1;
        };
    }

    public int feed(long eight, int n) {
        if (out(n, 1, 8)) return -1;
        if (tape.size() + n > 200) return -2;
        for (int i = 0; i < n; i++) tape.add((byte) (eight >> (8 * i)));
        return tape.size();
    }

    private String[] word;
    private int[] place;
    private int at;

    public int rules() {
        StringBuilder text = new StringBuilder();
        for (byte b : tape) text.append((char) (b & 255));
        tape.clear();
        List<String> words = new ArrayList<>();
        List<Integer> places = new ArrayList<>();
        Matcher m = WORD.matcher(text);
        for (int from = 0; m.find(from); from = m.end()) {
            words.add(m.group(1));
            places.add(m.start(1));
        }
        words.add("");
        places.add(text.length());
        word = words.toArray(new String[0]);
        place = places.stream().mapToInt(i -> i).toArray();
        at = 0;
        try {
            List<Rule> read = new ArrayList<>();
            while (!word[at].isEmpty()) {
                if (read.size() == 8) throw new Fault(place[at]);
                read.add(readRule());
            }
            s.rules = read;
            return read.size();
        } catch (Fault f) {
            return -100 - f.place;
        }
    }

    private int oneOf(List<String> some) {
        int i = some.indexOf(word[at]);
        if (i < 0) throw new Fault(place[at]);
        at++;
        return i;
    }

    private Rule readRule() {
        int kind = oneOf(KINDS);
        Predicate<int[]> holds = f -> true;
        if (word[at].equals("if")) {
            at++;
            holds = readOr(0);
        }
        int does = oneOf(DOES);
        oneOf(List.of(";"));
        return new Rule(kind, holds, does);
    }

    private Predicate<int[]> readOr(int open) {
        Predicate<int[]> p = readAnd(open);
        while (word[at].equals("or")) {
            at++;
            p = p.or(readAnd(open));
        }
        return p;
    }

    private Predicate<int[]> readAnd(int open) {
        Predicate<int[]> p = readNot(open);
        while (word[at].equals("and")) {
            at++;
            p = p.and(readNot(open));
        }
        return p;
    }

    private Predicate<int[]> readNot(int open) {
        if (word[at].equals("not")) {
            at++;
            return readNot(open).negate();
        }
        if (word[at].equals("(")) {
            if (open == 3) throw new Fault(place[at]);
            at++;
            Predicate<int[]> p = readOr(open + 1);
            oneOf(List.of(")"));
            return p;
        }
        int[] left = readValue();
        int sign = oneOf(List.of("<", "=", ">"));
        int[] right = readValue();
        return f -> Integer.signum(Integer.compare(valueOf(left, f), valueOf(right, f))) == sign - 1;
    }

    private static int valueOf(int[] v, int[] facts) { return v[0] == 0 ? v[1] : facts[v[1]]; }

    private int[] readValue() {
        if (word[at].matches("[0-9]{1,4}")) return new int[] {0, Integer.parseInt(word[at++])};
        return new int[] {1, oneOf(FACTS)};
    }

    public int chime() { return s.over() ? -4 : s.rest(1); }

    public int on(int n) { return out(n, 0, 16) ? -1 : s.copy().rest(n); }

    public int when(int k) {
        if (!dialAt(k)) return -1;
        S t = s.copy();
        if (t.dials.get(k).right) return -3;
        while (!t.over()) {
            t.rest(1);
            if (t.dials.get(k).right) return t.chime - 1;
        }
        return -3;
    }

    public int prideFor(int k) { return bestOf(k, true, 10); }

    public int spotFor(int k) { return bestOf(k, false, 6); }

    private int bestOf(int k, boolean pride, int values) {
        if (!dialAt(k)) return -1;
        int[] worth = new int[values];
        for (int v = 0; v < values; v++) {
            S t = s.copy();
            if (pride) t.dials.get(k).pride = v; else t.dials.get(k).spot = v;
            worth[v] = t.rest(99);
        }
        int most = Arrays.stream(worth).max().getAsInt();
        for (int v = 0; v < values; v++) if (worth[v] == most) return v;
        throw new IllegalStateException();
    }

    public int late(int k) {
        if (!dialAt(k)) return -1;
        S t = s.copy();
        while (t.dials.get(k).lag < 50) {
            if (t.over()) return -3;
            t.rest(1);
        }
        return t.chime;
    }

    public int middle() {
        int best = -3;
        long least = Long.MAX_VALUE;
        for (int k = 0; k < s.dials.size(); k++) {
            int lag = s.dials.get(k).lag;
            long sum = s.dials.stream().mapToInt(d -> Math.abs(d.lag - lag)).sum();
            if (sum < least) { least = sum; best = k; }
        }
        return best;
    }

    public int knots(int what) {
        int n = s.dials.size();
        if (out(what, -1, n - 1)) return -1;
        boolean[][] together = new boolean[n][n];
        for (int i = 0; i < n; i++) for (int j = 0; j < n; j++) {
            D a = s.dials.get(i), b = s.dials.get(j);
            together[i][j] = !a.right && !b.right && Math.abs(a.lag - b.lag) <= 5;
        }
        for (int v = 0; v < n; v++) for (int i = 0; i < n; i++) for (int j = 0; j < n; j++) {
            together[i][j] |= together[i][v] && together[v][j];
        }
        int count = 0, set = 0;
        for (int i = 0; i < n; i++) {
            boolean first = together[i][i];
            for (int j = 0; j < i; j++) if (together[i][j]) first = false;
            if (first) count++;
            if (what >= 0 && together[what][i]) set |= 1 << i;
        }
        return what < 0 ? count : set;
    }

    public int seats(int most, int what) {
        if (out(most, 0, 99) || out(what, 0, 1)) return -1;
        int best = 0, bestSet = 0;
        for (int set = 0; set < 64; set++) {
            int sum = 0;
            boolean good = true;
            for (int f = 0; f < 6; f++) {
                if ((set & 1 << f) == 0) continue;
                good &= s.shade(f) <= most && (f == 0 || (set & 1 << (f - 1)) == 0);
                sum += s.spot[f][1];
            }
            if (good && sum > best) { best = sum; bestSet = set; }
        }
        return what == 0 ? best : bestSet;
    }

    /** Each PLAN by its turn, as a number of that many digits. */
    private List<int[]> plansOf(int n) {
        int length = Math.max(0, Math.min(n, s.end - s.chime)), digits = s.dials.size() + 1;
        List<int[]> all = new ArrayList<>();
        for (int c = 0; c < (int) Math.pow(digits, length); c++) {
            int[] plan = new int[length];
            for (int i = length - 1, rest = c; i >= 0; i--, rest /= digits) plan[i] = rest % digits;
            all.add(plan);
        }
        return all;
    }

    private int mostWorth, bestWays;
    private int[] firstPlan;

    private void plan(int n) {
        mostWorth = Integer.MIN_VALUE;
        for (int[] plan : plansOf(n)) {
            int worth = s.copy().play(plan);
            if (worth > mostWorth) { mostWorth = worth; bestWays = 0; firstPlan = plan; }
            if (worth == mostWorth) bestWays++;
        }
    }

    public int best(int n) {
        if (out(n, 0, 4)) return -1;
        plan(n);
        return mostWorth;
    }

    public int ith(int n, int i) {
        if (out(n, 0, 4) || out(i, 0, 3)) return -1;
        plan(n);
        return i < firstPlan.length ? firstPlan[i] : -3;
    }

    public int ways(int n) {
        if (out(n, 0, 4)) return -1;
        plan(n);
        return bestWays;
    }

    public int order(int n, int dials) {
        if (out(n, 0, 4) || dials < 0 || dials >> s.dials.size() != 0) return -1;
        int least = 99;
        for (int[] plan : plansOf(n)) {
            S t = s.copy();
            t.play(plan);
            if ((t.rights() & dials) == dials) least = Math.min(least, (int) Arrays.stream(plan).filter(a -> a > 0).count());
        }
        return least == 99 ? -3 : least;
    }

    public int bars(int n, int dials) {
        if (out(n, 0, 4) || dials < 0 || dials >> s.dials.size() != 0) return -1;
        for (int k = 0; k < s.dials.size(); k++) {
            if ((dials & 1 << k) != 0 && order(n, 1 << k) == -3) return k;
        }
        return -3;
    }

    private static int value(S s, int n, boolean first) {
        if (n == 0 || s.over()) return 0;
        int best = first ? Integer.MIN_VALUE : Integer.MAX_VALUE;
        for (int act = 0; act <= s.dials.size(); act++) {
            int v = worthOf(s, act, n, first);
            best = first ? Math.max(best, v) : Math.min(best, v);
        }
        return best;
    }

    private static int worthOf(S s, int act, int n, boolean first) {
        S t = s.copy();
        return t.go(act) + value(t, n - 1, !first);
    }

    public int game(int n) { return out(n, 1, 4) ? -1 : value(s, n, true); }

    public int play(int n) {
        if (out(n, 1, 4)) return -1;
        if (s.over()) return -3;
        int act = 0;
        while (worthOf(s, act, n, true) != value(s, n, true)) act++;
        return act;
    }

    public int report(int k, int asked, int least, int most) {
        if (out(k, 0, 15) || out(asked, 0, 1) || out(least, 0, 99) || out(most, 0, 99) || most < least) return -1;
        if (s.reports.size() == 6) return -2;
        s.reports.add(new int[] {k, asked, least, most});
        return s.reports.size() - 1;
    }

    public int forget() {
        int was = s.reports.size();
        s.reports.clear();
        return was;
    }

    private boolean so(int[] report, int kind, int shade, int lag) {
        int shaded = 0;
        for (int c = 0; c < report[0]; c++) {
            lag = Math.min(99, lag + slip(kind, shade, s.sky[c] % 4));
            shaded += shades(kind, s.sky[c] / 4, c);
        }
        int was = report[1] == 0 ? lag : Math.min(99, shaded);
        return was >= report[2] && was <= report[3];
    }

    /** All that FIT, in the order in which the least is told, but for one REPORT. */
    private List<int[]> fitting(int without) {
        List<int[]> fit = new ArrayList<>();
        for (int kind = 1; kind < 6; kind++) for (int shade = 0; shade < 10; shade++) for (int lag = 0; lag < 100; lag += 10) {
            boolean all = true;
            for (int r = 0; r < s.reports.size(); r++) all &= r == without || so(s.reports.get(r), kind, shade, lag);
            if (all) fit.add(new int[] {kind, shade, lag});
        }
        return fit;
    }

    public int lone(int what) {
        if (out(what, 0, 3)) return -1;
        List<int[]> fit = fitting(-1);
        return what == 0 ? fit.size() : fit.isEmpty() ? -3 : fit.get(0)[what - 1];
    }

    public int liar() {
        if (!fitting(-1).isEmpty()) return -3;
        for (int r = 0; r < s.reports.size(); r++) if (!fitting(r).isEmpty()) return r;
        return -3;
    }

    public int seed(int v) {
        int was = s.z;
        s.z = v;
        return was;
    }

    public int lot() { return s.over() ? -4 : s.lotGo(); }

    public int times(int n, int v) {
        if (out(n, 1, 40) || out(v, 0, 999)) return -1;
        int z = s.z, times = 0;
        for (int i = 0; i < n; i++) {
            S t = s.copy();
            t.z = z;
            int worth = 0;
            while (!t.over()) worth += t.lotGo();
            z = t.z;
            if (worth >= v) times++;
        }
        return times;
    }

    public int prove(int n) {
        if (out(n, 0, 4)) return -1;
        plan(n);
        rows.clear();
        S t = s.copy();
        for (int act : firstPlan) {
            int worth = t.go(act);
            rows.add(new int[] {act, worth, t.rights()});
        }
        return rows.size();
    }

    public int row(int k, int what) {
        return out(k, 0, rows.size() - 1) || out(what, 0, 2) ? -9 : rows.get(k)[what];
    }

    public int alterRow(int k, int what, int v) {
        int was = row(k, what);
        if (!out(k, 0, rows.size() - 1) && !out(what, 0, 2)) rows.get(k)[what] = v;
        return was;
    }

    public int judge() {
        S t = s.copy();
        int number = 0;
        for (int[] row : rows) {
            number++;
            if (out(row[0], 0, t.dials.size()) || t.over()) return number;
            int worth = t.go(row[0]);
            if (worth != row[1] || t.rights() != row[2]) return number;
        }
        return 0;
    }

    private static final Class<?>[] SORTS = {byte.class, short.class, int.class, long.class, boolean.class};

    public int sheet(int sheet, int sort, int n) {
        if (out(sheet, 0, 3) || out(sort, -1, 4) || sort >= 0 && n > 40) return -1;
        if (sort >= 0 && n < 0) return -14;
        sheets[sheet] = sort < 0 ? null : Array.newInstance(SORTS[sort], n);
        return 1;
    }

    private static boolean isSort(Object row, int sort) { return row.getClass().getComponentType() == SORTS[sort]; }

    public int write(int sheet, int i, int v) {
        if (out(sheet, 0, 3)) return -1;
        Object row = sheets[sheet];
        if (row == null) return -11;
        if (out(i, 0, Array.getLength(row) - 1)) return -12;
        if (row instanceof byte[] b) b[i] = (byte) v;
        if (row instanceof short[] b) b[i] = (short) v;
        if (row instanceof int[] b) b[i] = v;
        if (row instanceof long[] b) b[i] = v;
        if (row instanceof boolean[] b) b[i] = v != 0;
        return 1;
    }

    public int item(int sheet, int sort, int i) {
        if (out(sheet, 0, 3) || out(sort, 0, 4)) return -1;
        Object row = sheets[sheet];
        if (row != null && !isSort(row, sort)) return -13;
        if (row == null) return -11;
        if (out(i, 0, Array.getLength(row) - 1)) return -12;
        if (row instanceof boolean[] b) return b[i] ? 1 : 0;
        return (int) Array.getLong(row, i);
    }

    public int goAll(int sheet, int i, int n) {
        if (out(sheet, 0, 3) || out(n, 0, 20)) return -1;
        if (sheets[sheet] == null) return -11;
        if (!(sheets[sheet] instanceof byte[] row)) return -13;
        int worth = 0;
        for (long at = i; at < (long) i + n; at++) {
            if (at < 0 || at >= row.length) return -12;
            int act = row[(int) at];
            if (!out(act, 0, s.dials.size()) && !s.over()) worth += s.go(act);
        }
        return worth;
    }

    public int wouldBe(int sheet, int i, int n) {
        if (out(sheet, 0, 3) || out(n, 0, 20)) return -1;
        if (sheets[sheet] == null) return -11;
        if (!(sheets[sheet] instanceof byte[] row)) return -13;
        S t = s.copy();
        int worth = 0;
        for (long at = i; at < (long) i + n; at++) {
            if (at < 0 || at >= row.length) return -12;
            int act = row[(int) at];
            if (out(act, 0, t.dials.size()) || t.over()) return -4;
            worth += t.go(act);
        }
        return worth;
    }

    public int shelf(int shelf, int what, int n) {
        if (out(shelf, 0, 3) || out(what, 0, 2)) return -1;
        if (what == 0 && !dialAt(n) || what == 1 && out(n, 0, 3)) return -1;
        shelves[shelf] = what == 0 ? (Object) Integer.valueOf(n) : what == 1 ? sheets[n] : null;
        return 1;
    }

    public int taken(int shelf, int as) {
        if (out(shelf, 0, 3) || out(as, 0, 14) || !out(as, 6, 9)) return -1;
        Object thing = shelves[shelf];
        if (thing == null) return -11;
        if (thing instanceof Integer k) {
            if (!dialAt(k)) return -11;
            return as < 6 && under(s.dials.get(k).kind, as) ? k : -13;
        }
        return as > 9 && isSort(thing, as - 10) ? Array.getLength(thing) : -13;
    }

    public int act(int shelf, int act, int x) {
        ran = new ArrayList<>();
        if (out(shelf, 0, 3) || out(act, 0, 3)) return 0;
        if (!(shelves[shelf] instanceof Integer k) || !dialAt(k)) return 0;
        Thing thing = thingOf(s.dials.get(k), k);
        try {
            return switch (act) {
                case 0 -> thing.points(x);
                case 1 -> thing.slants(x);
                case 2 -> thing.shares(x);
                default -> thing.tells(x);
            };
        } catch (ArithmeticException parted) {
            return -15;
        }
    }

    private Thing thingOf(D d, int k) {
        return switch (d.kind) {
            case 1 -> new NoonThing(k, d.spot, ran);
            case 2 -> new TallThing(k, d.spot, ran);
            case 3 -> new GuildThing(k, d.spot, ran);
            case 4 -> new LowThing(k, d.spot, ran);
            default -> new SlitThing(k, d.spot, ran);
        };
    }

    public int trace(int i) { return out(i, 0, Math.min(30, ran.size()) - 1) ? -3 : ran.get(i); }

    public int many(int what) {
        return switch (what) {
            case 0 -> s.dials.size();
            case 1 -> s.rules.size();
            case 2 -> Integer.bitCount(s.rights());
            case 3 -> s.reports.size();
            case 4 -> rows.size();
            case 5 -> tape.size();
            case 6 -> Math.min(30, ran.size());
            default -> -1;
        };
    }

    public int keep() {
        keptOne = s.copy();
        return 1;
    }

    public int again() {
        if (keptOne == null) return -3;
        s = keptOne.copy();
        return s.dials.size();
    }
}
