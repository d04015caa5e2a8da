import java.lang.reflect.InvocationTargetException;
import java.lang.reflect.Method;
import java.lang.reflect.Modifier;
import java.util.ArrayList;
import java.util.List;
import java.util.Set;
import java.util.TreeSet;
import java.util.function.IntSupplier;

/** Sentences of 'Terms' that are about many calls at once, or that no other test is about. */
public final class TermsTest extends Check {
    private static final int[] KINDS = {NOON, TALL, GUILD, LOW, SLIT};
    private static final String[] DOES = {"set", "keep", "argue"};
    /** What may be below 0 and isn't a refusal: what it was, what is kept in it, what comes out. */
    private static final Set<String> FREE = Set.of("seed", "row", "alterRow", "item", "act");
    private static final Set<String> HOST = Set.of("sheet", "write", "goAll", "wouldBe", "shelf", "taken", "trace", "many");
    private static final Set<Integer> BY_OTHERS = Set.of(BAD, FULL, NONE, STATE);
    private static final Set<Integer> BY_HOST = Set.of(BAD, NONE, STATE, NOTHING, OUTSIDE, OTHER, BELOW);
    private static final Set<String> ASKING = Set.of(
            "dialOf", "spotOf", "state", "on", "when", "prideFor", "spotFor", "late", "middle", "knots", "seats", "best", "ith",
            "ways", "order", "bars", "game", "play", "lone", "liar", "times", "row", "judge", "item", "wouldBe", "taken",
            "trace", "many");

    public static void main(String[] args) {
        refusalsChangeNothing();
        whatIsAskedChangesNothing();
        firstNamed();
        firstNamedByTheHost();
        setsByBits();
        chimesCounted();
        shadesBySunAndChime();
        slipsByShadeAndCloud();
        does();
        kindsAndDoes();
        values();
        joins();
        actsOfPlans();
        orders();
        bars();
        gamesOfTwo();
        loneByItsKind();
        fitBySkies();
        byChance();
        rowsOfTheFirst();
        dialOf();
        bodiesOfDials();
        bodiesOfKinds();
        firstThirty();
        shelvesApart();
        end("TermsTest");
    }

    private static Run[] squares() {
        return new Run[] {new Run(), full(), over(full()), noons(6)};
    }

    private static List<Method> calls() {
        Set<String> names = new TreeSet<>();
        for (Method m : DialSquare.class.getDeclaredMethods()) if (Modifier.isPublic(m.getModifiers())) names.add(m.getName());
        List<Method> all = new ArrayList<>();
        for (Method m : Run.class.getDeclaredMethods()) if (names.contains(m.getName())) all.add(m);
        is(51, all.size());
        return all;
    }

    /** All rows of so many numbers; the longer, the fewer of them are tried at each place. */
    private static List<Object[]> argumentsOf(Method m) {
        int[][] tried = {{}, {-2, -1, 0, 1, 3, 5, 6, 17, 100}, {-1, 0, 1, 4, 6, 41}, {-1, 0, 3, 5, 21}, {-1, 0, 1, 16}};
        Class<?>[] types = m.getParameterTypes();
        List<Object[]> all = new ArrayList<>();
        all.add(new Object[types.length]);
        for (int i = 0; i < types.length; i++) {
            List<Object[]> longer = new ArrayList<>();
            for (Object[] row : all) {
                for (int v : tried[types.length]) {
                    Object[] next = row.clone();
                    if (types[i] == long.class) next[i] = (long) v;
                    else next[i] = v;
                    longer.add(next);
                }
            }
            all = longer;
        }
        return all;
    }

    private static IntSupplier on(Run x, Method m, Object[] arguments) {
        return () -> {
            try {
                return (int) m.invoke(x, arguments);
            } catch (IllegalAccessException | InvocationTargetException e) {
                throw new IllegalStateException(e);
            }
        };
    }

    private static void refusalsChangeNothing() {
        says("BAD (-1) there is no such thing, or a number is not as told; FULL (-2); NONE (-3); STATE (-4); and what the host refuses: -11 nothing where something is asked, -12 a place outside, -13 a thing of another sort or kind, -14 a size below 0, ");
        says("Answers below 0, where not told otherwise, are refusals; such a call changes nothing (but that THE TAPE is used up by rules())");
        for (Run x : squares()) {
            for (Method m : calls()) {
                if (FREE.contains(m.getName()) || m.getName().equals("rules")) continue;
                Set<Integer> refusals = HOST.contains(m.getName()) ? BY_HOST : BY_OTHERS;
                for (Object[] arguments : argumentsOf(m)) {
                    int answer = x.tried(on(x, m, arguments));
                    if (answer >= 0) continue;
                    holds(refusals.contains(answer));
                    if (!m.getName().equals("goAll") || answer != OUTSIDE) refuses(x, answer, on(x, m, arguments));
                }
            }
        }
        Run y = full();
        for (int i : new int[] {-1, 3}) refuses(y, NO_ROW, () -> y.row(i, 0));
        for (int i : new int[] {-1, 3}) refuses(y, NO_ROW, () -> y.alterRow(i, 0, 0));
        for (int i : new int[] {-1, 5}) refuses(y, OUTSIDE, () -> y.item(0, 0, i));
        for (int i : new int[] {-1, 5}) refuses(y, OUTSIDE, () -> y.goAll(0, i, 1));
        for (int i : new int[] {1, 4}) refuses(y, OTHER, () -> y.item(0, i, 0));
        refuses(y, NOTHING, () -> y.item(2, 0, 0));
    }

    private static void whatIsAskedChangesNothing() {
        says("======== 3 What is asked changes nothing, if not told.");
        for (Run x : squares()) {
            for (Method m : calls()) {
                if (!ASKING.contains(m.getName())) continue;
                for (Object[] arguments : argumentsOf(m)) unchanged(x, on(x, m, arguments));
            }
        }
    }

    private static void firstNamed() {
        says("of several the first named");
        Run x = noons(6);
        for (int r = 0; r < 6; r++) x.report(0, 0, 5, 5);
        tape(x, " ".repeat(200));
        x.ends(2);
        chimes(x, 2);
        refuses(x, BAD, () -> x.dial(0, 0, 0, 0));
        refuses(x, FULL, () -> x.dial(1, 0, 0, 0));
        refuses(x, BAD, () -> x.ends(0));
        refuses(x, STATE, () -> x.ends(1));
        refuses(x, BAD, () -> x.feed(0, 9));
        refuses(x, FULL, () -> x.feed(0, 1));
        refuses(x, BAD, () -> x.when(6));
        refuses(x, NONE, () -> x.when(0));
        refuses(x, BAD, () -> x.late(6));
        refuses(x, NONE, () -> x.late(0));
        refuses(x, BAD, () -> x.ith(5, 0));
        refuses(x, BAD, () -> x.ith(0, 4));
        refuses(x, NONE, () -> x.ith(0, 0));
        refuses(x, BAD, () -> x.order(5, 63));
        refuses(x, BAD, () -> x.order(4, 64));
        refuses(x, NONE, () -> x.order(4, 63));
        refuses(x, BAD, () -> x.bars(5, 0));
        refuses(x, NONE, () -> x.bars(4, 0));
        refuses(x, BAD, () -> x.play(5));
        refuses(x, NONE, () -> x.play(4));
        refuses(x, BAD, () -> x.report(0, 0, 1, 0));
        refuses(x, FULL, () -> x.report(0, 0, 0, 1));
        refuses(x, BAD, () -> x.lone(4));
        refuses(x, NONE, () -> x.lone(3));
    }

    private static void firstNamedByTheHost() {
        says("of several the first named");
        Run x = over(full());
        refuses(x, BAD, () -> x.sheet(4, 0, -1));
        refuses(x, BAD, () -> x.sheet(0, 5, -1));
        refuses(x, BELOW, () -> x.sheet(0, 4, -1));
        refuses(x, BAD, () -> x.write(4, -1, 0));
        refuses(x, NOTHING, () -> x.write(3, -1, 0));
        refuses(x, OUTSIDE, () -> x.write(1, -1, 0));
        refuses(x, BAD, () -> x.item(4, 0, -1));
        refuses(x, BAD, () -> x.item(3, 5, -1));
        refuses(x, OTHER, () -> x.item(1, 0, -1));
        refuses(x, NOTHING, () -> x.item(3, 0, -1));
        refuses(x, OUTSIDE, () -> x.item(1, 2, -1));
        for (int n : new int[] {-1, 21}) {
            for (int sheet = 0; sheet < 4; sheet++) {
                int s = sheet;
                refuses(x, BAD, () -> x.goAll(s, -1, n));
                refuses(x, BAD, () -> x.wouldBe(s, -1, n));
            }
        }
        refuses(x, OTHER, () -> x.goAll(1, -1, 1));
        refuses(x, OTHER, () -> x.wouldBe(1, -1, 1));
        refuses(x, NOTHING, () -> x.goAll(3, -1, 1));
        refuses(x, NOTHING, () -> x.wouldBe(3, -1, 1));
        refuses(x, OUTSIDE, () -> x.wouldBe(0, -1, 1));
        refuses(x, STATE, () -> x.wouldBe(0, 0, 1));
        refuses(x, BAD, () -> x.taken(4, 0));
        refuses(x, BAD, () -> x.taken(3, 9));
        refuses(x, NOTHING, () -> x.taken(3, 0));
        refuses(x, OTHER, () -> x.taken(1, 0));
    }

    private static void setsByBits() {
        says("Sets are told by bits.");
        for (int set = 0; set < 64; set++) {
            Run x = noons(6);
            for (int k = 0; k < 6; k++) {
                x.change(k, RIGHT, set >> k & 1);
                x.change(k, LAG, (set >> k & 1) == 0 ? 0 : 30);
            }
            is(set, x.state(4));
            is(Integer.bitCount(set), x.many(2));
            for (int k = 0; k < 6; k++) is((set >> k & 1) == 0 ? 63 - set : 0, x.knots(k));
            is(0, x.order(0, set));
            for (int k = 0; k < 6; k++) is((set >> k & 1) == 0 ? NONE : 0, x.order(0, 1 << k));
            int first = set == 63 ? NONE : Integer.numberOfTrailingZeros(~set);
            is(first, x.bars(0, 63));
        }
        for (int f = 0; f < 6; f++) {
            Run x = new Run();
            x.spot(f, 1, 1);
            is(1 << f, x.seats(0, 1));
        }
    }

    private static void chimesCounted() {
        says("======== 1 THE SQUARE: CHIMES are 0, 1, ..;");
        Run x = ruled(one(NOON, 0, 0), "dial if chime=5 keep;");
        x.ends(16);
        for (int c = 0; c < 16; c++) {
            is(c, x.state(0));
            is(c == 5 ? 1 : 0, x.dialOf(0, WILL));
            x.sky(c, c);
            is(c, x.state(5));
            x.chime();
        }
        is(16, x.state(0));
    }

    private static void shadesBySunAndChime() {
        says("SHADES (by SUN, CHIME):");
        for (int kind : KINDS) {
            Run x = one(kind, 0, 2);
            for (int chime = 0; chime < 6; chime++) {
                x.sky(chime, 4);
                int due = x.dialOf(0, SHADES);
                for (int cloud = 0; cloud < 4; cloud++) {
                    x.sky(chime, 4 + cloud);
                    x.change(0, LAG, 30 * cloud);
                    x.change(0, PRIDE, cloud);
                    x.change(0, RIGHT, cloud % 2);
                    x.change(0, SPOT, 1 + cloud);
                    x.spot(1 + cloud, 0, 9);
                    is(due, x.dialOf(0, SHADES));
                    is(due, x.spotOf(2 + cloud, 2) - x.spotOf(2 + cloud, 0));
                }
                x.change(0, SPOT, 2);
                x.chime();
            }
        }
    }

    private static void slipsByShadeAndCloud() {
        says("SLIPS (by SHADE of its SPOT, CLOUD):");
        for (int kind : KINDS) {
            Run x = ruled(one(kind, 0, 2), "dial keep;");
            x.dial(LOW, 0, 0, 1);
            x.spot(2, 0, 3);
            for (int chime = 0; chime < 6; chime++) {
                x.sky(chime, 1);
                int due = x.dialOf(0, SLIPS);
                is(new int[] {0, 0, 2, 1, 8, 8}[kind], due);
                for (int sun = 0; sun < 4; sun++) {
                    x.sky(chime, 4 * sun + 1);
                    x.change(0, LAG, 30 * sun);
                    x.change(0, PRIDE, sun);
                    x.change(0, RIGHT, sun % 2);
                    is(due, x.dialOf(0, SLIPS));
                }
                x.chime();
            }
        }
    }

    private static void does() {
        says("A CHIME goes by: (1) If a DIAL is told, it does as its WILL is:");
        for (int kind : KINDS) {
            for (int will = -1; will < 3; will++) {
                for (int act = 0; act < 3; act++) {
                    Run x = one(kind, 24, 5);
                    x.dial(NOON, 60, 0, 5);
                    for (int c = 0; c < 16; c++) x.sky(c, 7);
                    if (will >= 0) told(x, "dial " + DOES[will] + ";");
                    boolean set = will < 1;
                    int worth = act == 0 || will == 1 ? 0 : set ? act == 1 ? 5 : 0 : 1;
                    is(worth, acted(x, act));
                    is(set && act == 1 ? 1 : 0, x.state(4));
                    is(will == 2 && act == 1 ? 42 : 60, x.dialOf(1, LAG));
                    is(set && act == 1 ? 0 : will == 2 && act == 2 ? 42 : 24, x.dialOf(0, LAG));
                }
            }
        }
    }

    private static void kindsAndDoes() {
        says("KIND: dial | noon | tall | guild | low | slit. DO: set | keep | argue.");
        String[] names = {"dial", "noon", "tall", "guild", "low", "slit"};
        for (int i = 0; i < 6; i++) {
            for (int does = 0; does < 3; does++) {
                Run x = new Run();
                for (int kind : KINDS) x.dial(kind, 0, 0, 0);
                is(2, told(x, names[i] + " " + DOES[does] + "; dial " + DOES[(does + 1) % 3] + ";"));
                for (int k = 0; k < 5; k++) {
                    boolean under = i == 0 || i == KINDS[k] || i == TALL && KINDS[k] == GUILD || i == LOW && KINDS[k] == SLIT;
                    is(under ? does : (does + 1) % 3, x.dialOf(k, WILL));
                }
            }
        }
        Run y = new Run();
        for (String other : new String[] {"nine", "noons", "tal", "guilds", "slits", "lows", "keep", "chime"}) is(-100, told(y, other + " set;"));
        for (String other : new String[] {"sets", "keeps", "argues", "argu", "dial", "lag"}) is(-105, told(y, "dial " + other + ";"));
    }

    private static void values() {
        says("VALUE: N | chime | lag | pride | sun | number");
        String[] names = {"7", "chime", "lag", "pride", "sun", "number"};
        int[] due = {7, 2, 77, 8, 1, 3};
        for (int i = 0; i < 6; i++) {
            Run x = noons(4);
            chimes(x, 2);
            x.sky(2, 4);
            x.change(3, LAG, 77);
            x.change(3, PRIDE, 8);
            for (int j = 0; j < 6; j++) {
                String sign = due[i] < due[j] ? "<" : due[i] > due[j] ? ">" : "=";
                for (String s : new String[] {"<", "=", ">"}) {
                    is(1, told(x, "dial if " + names[i] + s + names[j] + " argue;"));
                    is(s.equals(sign) ? 2 : 0, x.dialOf(3, WILL));
                }
            }
        }
    }

    private static void joins() {
        says("COND: ALL { or ALL }      ALL: ONE { and ONE }");
        for (int row = 0; row < 32; row++) {
            for (int signs = 0; signs < 16; signs++) {
                StringBuilder text = new StringBuilder("noon if ");
                boolean any = false, all = true;
                for (int i = 0; i < 5; i++) {
                    boolean one = (row >> i & 1) != 0;
                    boolean or = i > 0 && (signs >> i - 1 & 1) != 0;
                    if (i > 0) text.append(or ? " or " : " and ");
                    text.append(one ? "lag=0" : "lag>0");
                    any |= or && all;
                    all = or ? one : all && one;
                }
                Run x = ruled(noons(1), text + " keep;");
                is(any || all ? 1 : 0, x.dialOf(0, WILL));
            }
        }
    }

    private static void actsOfPlans() {
        says(": 0 none is told, or 1 more than the number of the DIAL that is. Its WORTH: of these CHIMES together.");
        for (int k = 0; k < 6; k++) {
            Run x = spread(6);
            for (int j = 0; j < 6; j++) if (j != k) x.change(j, RIGHT, 1);
            is(9 - k, x.best(1));
            is(k + 1, x.ith(1, 0));
            is(9 - k, x.best(2));
            is(0, x.ith(2, 0));
            is(k + 1, x.ith(2, 1));
        }
        Run z = sheeted(square(), 4, 0, 2, 5);
        for (int n = 1; n < 5; n++) {
            int many = n, sum = 0;
            for (int i = 0; i < n; i++) {
                int at = i;
                sum += z.tried(() -> z.wouldBe(0, 0, at + 1)) - z.tried(() -> z.wouldBe(0, 0, at));
            }
            is(sum, z.tried(() -> z.goAll(0, 0, many)));
        }
    }

    private static void orders() {
        says("ORDER by n, a set of DIALS: the fewest ACTS that aren't 0 in a PLAN of n behind which each of them is RIGHT.");
        Run x = noons(4);
        x.change(0, LAG, 54);
        x.change(1, LAG, 90);
        x.change(3, RIGHT, 1);
        told(x, "noon if number=0 and lag<54 set; noon if number=0 keep; noon if number=2 and chime=0 argue;");
        int[][] setDue = {{0, 0, 0, 0, 0}, {8, 0, 0, 0, 0}, {4, NONE, NONE, 1, 1}, {12, NONE, NONE, 1, 1}, {2, NONE, NONE, 2, 2}};
        for (int[] s : setDue) for (int n = 0; n < 4; n++) is(s[n + 1], x.order(n, s[0]));
        is(2, x.order(3, 1));
        is(NONE, x.order(1, 1));
        is(2, x.order(2, 1));
        is(3, x.order(4, 5));
        is(NONE, x.order(3, 7));
        is(4, x.order(4, 7));
    }

    private static void bars() {
        says("BAR: the least of them that is so behind no PLAN of n.");
        Run x = ruled(noons(6), "noon if number=2 keep; noon if number=4 and chime<2 keep;");
        is(0, x.bars(0, 63));
        is(1, x.bars(0, 62));
        is(2, x.bars(1, 63));
        is(4, x.bars(1, 63 - 4));
        is(4, x.bars(2, 63 - 4));
        is(NONE, x.bars(3, 63 - 4));
        is(2, x.bars(3, 63));
        is(NONE, x.bars(1, 1 + 2 + 8 + 32));
        is(NONE, x.order(1, 1 + 2 + 8 + 32));
        x.change(2, RIGHT, 1);
        is(4, x.bars(1, 63));
        is(NONE, x.bars(3, 63));
    }

    private static void gamesOfTwo() {
        says("; the first one wants as much WORTH as can be, the other one as little. VALUE: that, if both play as well as they can.");
        Run x = spread(2);
        is(9, x.game(1));
        is(9, x.game(2));
        is(9 + 8, x.game(3));
        is(9 + 8, x.game(4));
        is(1, x.play(1));
        is(1, x.play(2));
        is(1, x.play(3));
        Run y = ruled(noons(4), "noon if number<3 keep; noon if lag>0 argue;");
        y.change(3, LAG, 12);
        is(3 + 3 / 2, y.game(1));
        is(4, y.play(1));
        y.change(3, LAG, 10);
        is(3 + 6 / 2, y.game(1));
        is(4, y.play(1));
        Run z = noons(2);
        z.change(0, LAG, 18);
        z.change(1, LAG, 6);
        is(8, z.game(2));
        is(2, z.play(2));
        is(8 + 6, z.best(2));
    }

    private static void loneByItsKind() {
        says("A LONE DIAL is a KIND (1 to 5; its number 0),");
        Run x = new Run();
        int[] shades = {0, 2, 6, 6, 1, 0}, least = new int[6];
        for (int kind : KINDS) {
            x.forget();
            x.report(1, 1, shades[kind], shades[kind]);
            x.report(2, 1, kind == SLIT ? 1 : 2 * shades[kind], kind == SLIT ? 1 : 2 * shades[kind]);
            least[kind] = x.lone(1);
        }
        int[] due = {0, NOON, TALL, TALL, LOW, SLIT};
        for (int kind : KINDS) is(due[kind], least[kind]);
        Run y = full();
        for (Run r : new Run[] {x, y}) {
            r.forget();
            told(r, "dial if number=0 set; dial argue;");
            is(500, r.lone(0));
            r.report(15, 0, 20, 20);
            int fit = r.lone(0);
            told(r, "dial keep;");
            is(fit, r.lone(0));
        }
    }

    private static void fitBySkies() {
        says("Those that FIT: by which each REPORT is so, by SKIES as they are.");
        Run x = new Run();
        x.report(1, 1, 8, 8);
        is(0, x.lone(0));
        x.sky(0, 2);
        is(200, x.lone(0));
        x.report(1, 0, 90, 90);
        is(3 + 5, x.lone(0));
        x.sky(0, 3);
        is(4 + 6, x.lone(0));
        x.sky(0, 4);
        is(0, x.lone(0));
        x.sky(1, 3);
        is(0, x.lone(0));
        x.sky(0, 3);
        is(4 + 6, x.lone(0));
        x.report(1, 0, 89, 89);
        is(0, x.lone(0));
        is(2, x.liar());
        x.sky(0, 6);
        is(NONE, x.liar());
        x.sky(0, 3);
        x.chime();
        x.ends(1);
        is(2, x.liar());
    }

    private static void byChance() {
        says("LOT: A CHIME by chance:");
        int[] seeds = {1, 2, 3, 77, -5};
        for (int seed : seeds) {
            Run x = square();
            x.seed(seed);
            int z = seed;
            for (int c = 0; c < 12; c++) {
                z = (int) (z * 1103515245L + 12345);
                int act = (int) ((z & 0xffffffffL) >> 16) % 6;
                Run y = x;
                y.sheet(1, 0, 1);
                y.write(1, 0, act);
                int due = x.tried(() -> y.wouldBe(1, 0, 1));
                is(due, x.lot());
                is(c + 1, x.state(0));
            }
            is(z, x.seed(0));
        }
    }

    private static void rowsOfTheFirst() {
        says("ROWS of the FIRST of the BEST PLANS: for each CHIME (ACT, what it is WORTH, DIALS that are RIGHT behind it, as a set).");
        for (int n = 0; n < 5; n++) {
            Run x = square();
            x.sky(1, 5);
            is(n, x.prove(n));
            int worth = 0;
            for (int k = 0; k < n; k++) {
                is(x.ith(n, k), x.row(k, 0));
                worth += x.row(k, 1);
            }
            is(x.best(n), worth);
            for (int k = 0; k < n; k++) {
                is(x.row(k, 1), acted(x, x.row(k, 0)));
                is(x.row(k, 2), x.state(4));
            }
        }
    }

    private static void dialOf() {
        says(", 2 PRIDE, 3 SPOT, 4 1 if it is RIGHT, else 0, 5 what it SHADES now, 6 what it SLIPS now (RIGHT or not), 7 what it PAYS now, 8 1 if it MAY be set now, else 0, 9 WILL as all is now (0 set, 1 keep, 2 argue). BAD.");
        Run x = square();
        int[][] due = {
            {NOON, 10, 3, 0, 0, 2, 0, 11, 1, 0}, {TALL, 20, 6, 1, 0, 6, 0, 12, 1, 0}, {LOW, 5, 2, 2, 0, 1, 11, 11, 1, 0},
            {SLIT, 30, 9, 1, 0, 0, 3, 13, 1, 0}, {GUILD, 24, 5, 3, 0, 6, 0, 10, 1, 0}};
        x.spot(1, 0, 0);
        for (int k = 0; k < 5; k++) for (int what = 0; what < 10; what++) is(due[k][what], x.dialOf(k, what));
        x.change(2, RIGHT, 1);
        is(1, x.dialOf(2, RIGHT));
        is(1, x.dialOf(2, SHADES));
        is(11, x.dialOf(2, SLIPS));
        is(0, x.dialOf(2, PAYS));
        is(0, x.dialOf(2, MAY));
        is(0, x.dialOf(2, WILL));
        told(x, "low if lag=5 keep; noon argue;");
        int[] wills = {2, 0, 1, 0, 0};
        for (int k = 0; k < 5; k++) is(wills[k], x.dialOf(k, WILL));
        x.chime();
        is(1, x.dialOf(3, SHADES));
    }

    private static Run thing(int kind, int n, int spot) {
        Run x = noons(6);
        x.remake(n, kind);
        x.change(n, SPOT, spot);
        x.shelf(0, 0, n);
        return x;
    }

    private static void ran(Run x, int due, int act, int with, int... bodies) {
        is(due, x.act(0, act, with));
        is(bodies.length, x.many(6));
        for (int i = 0; i < bodies.length; i++) is(bodies[i], x.trace(i));
    }

    private static void bodiesOfDials() {
        says("A DIAL is held as a thing of its KIND; n: its number, a: its SPOT. BODIES, each with its number:\n    dial: ");
        says("13 tells: slants(x) ^ shares(x).");
        Run x = thing(LOW, 3, 5);
        ran(x, 10 * 4 - 3, 0, 10, 10);
        ran(x, 37 + 25, 1, 10, 11, 10);
        ran(x, (37 + 25) ^ 2 * (10 % 4), 3, 10, 13, 11, 10, 40, 12);
        ran(x, -43 + 25, 1, -10, 11, 10);
        Run y = thing(TALL, 1, 3);
        ran(y, 11 % 4, 2, 11, 12);
        ran(y, -(11 % 4), 2, -11, 12);
        ran(y, 11 * 4 - 1, 0, 11, 10);
    }

    private static void bodiesOfKinds() {
        says("noon: 20 points: super.points(x) + 12. tall: 30 slants: super.slants(x) ^ 9. low: 40 shares: super.shares(x) * 2.");
        says("guild: 50 points: super.points(x - 3). 51 tells: super.tells(x) - slants(a). slit: 60 slants: 0 - super.slants(x). 61 shares: super.shares(x) + points(n).");
        Run noon = thing(NOON, 2, 4);
        ran(noon, 7 * 4 - 2 + 12, 0, 7, 20, 10);
        ran(noon, 38 + 20, 1, 7, 11, 20, 10);
        ran(noon, 7 % 4, 2, 7, 12);
        ran(noon, 58 ^ 3, 3, 7, 13, 11, 20, 10, 12);
        Run tall = thing(TALL, 2, 4);
        ran(tall, (26 + 20) ^ 9, 1, 7, 30, 11, 10);
        ran(tall, 46 ^ 9 ^ 3, 3, 7, 13, 30, 11, 10, 12);
        Run low = thing(LOW, 2, 4);
        ran(low, 2 * (7 % 4), 2, 7, 40, 12);
        ran(low, -2 * (7 % 4), 2, -7, 40, 12);
        ran(low, 46 ^ 6, 3, 7, 13, 11, 10, 40, 12);
        Run guild = thing(GUILD, 2, 4);
        ran(guild, (7 - 3) * 4 - 2, 0, 7, 50, 10);
        ran(guild, (14 + 20) ^ 9, 1, 7, 30, 11, 50, 10);
        ran(guild, 3, 2, 7, 12);
        ran(guild, (34 ^ 9 ^ 3) - ((4 - 3) * 4 - 2 + 20 ^ 9), 3, 7, 51, 13, 30, 11, 50, 10, 12, 30, 11, 50, 10);
        Run slit = thing(SLIT, 2, 4);
        ran(slit, -(26 + 20), 1, 7, 60, 11, 10);
        ran(slit, 6 + (2 * 4 - 2), 2, 7, 61, 40, 12, 10);
        ran(slit, -46 ^ 12, 3, 7, 13, 60, 11, 10, 61, 40, 12, 10);
    }

    /** No ACT runs as many: all that ran are kept. */
    private static void firstThirty() {
        says("; the first 30 are kept.");
        int most = 0;
        for (int kind : KINDS) {
            for (int act = 0; act < 4; act++) {
                Run x = thing(kind, 0, 1);
                x.act(0, act, 9);
                for (int i = 0; i < x.many(6); i++) holds(x.trace(i) >= 10);
                most = Math.max(most, x.many(6));
            }
        }
        is(11, most);
    }

    private static void shelvesApart() {
        says("SHELVES 0 to 3 hold a DIAL");
        Run x = noons(6);
        for (int sheet = 0; sheet < 4; sheet++) x.sheet(sheet, sheet, 10 + sheet);
        for (int shelf = 0; shelf < 4; shelf++) is(1, x.shelf(shelf, shelf % 2, 3 - shelf));
        is(3, x.taken(0, 1));
        is(12, x.taken(1, 12));
        is(1, x.taken(2, 1));
        is(10, x.taken(3, 10));
        is(1, x.shelf(1, 2, 0));
        is(NOTHING, x.taken(1, 12));
        is(3, x.taken(0, 1));
        is(1, x.taken(2, 1));
        is(10, x.taken(3, 10));
    }
}
