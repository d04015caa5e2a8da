import java.lang.reflect.Method;
import java.lang.reflect.Modifier;
import java.util.ArrayList;
import java.util.HashMap;
import java.util.List;
import java.util.Map;
import java.util.Random;

/** Runs of calls by fixed seeds: DialSquare and Model must answer alike. -Druns=, -Dfrom= tell how many, from which seed. */
public final class ModelTest {
    private static final int CALLS = 512;
    private static final Map<String, Method> ASKED = methods(DialSquare.class);
    private static final Map<String, Method> DUE = methods(Model.class);
    private static final String[] NAMES = {
        "dial", "dialOf", "dialOf", "change", "change", "remake", "sky", "spot", "spot", "spotOf", "ends", "anew",
        "state", "state", "text", "text", "text", "tape", "chime", "chime", "on", "when", "prideFor",
        "spotFor", "late", "middle", "knots", "seats", "best", "ith", "ways", "order", "bars", "game", "play",
        "report", "report", "report", "forget", "lone", "lone", "liar", "seed", "lot", "times", "prove", "row",
        "row", "alterRow", "judge", "judge", "sheet", "write", "write", "item", "item", "goAll", "wouldBe",
        "wouldBe", "shelf", "shelf", "taken", "taken", "act", "act", "trace", "trace", "many", "keep", "again"};

    private final Random r;
    private final int wild;
    private final DialSquare asked = new DialSquare();
    private final Model due = new Model();
    private final StringBuilder run = new StringBuilder();
    private int calls;
    private boolean differs;

    private ModelTest(int seed) {
        r = new Random(seed);
        wild = seed % 3 == 0 ? 12 : 60;
    }

    public static void main(String[] args) throws Exception {
        int runs = Integer.getInteger("runs", 400);
        int from = Integer.getInteger("from", 0);
        for (int seed = from; seed < from + runs; seed++) {
            ModelTest test = new ModelTest(seed);
            test.go();
            if (test.differs) {
                System.out.println("seed " + seed + "\n" + test.run);
                System.exit(1);
            }
        }
        System.out.println("ModelTest: " + runs + " runs answer alike");
    }

    private static Map<String, Method> methods(Class<?> c) {
        Map<String, Method> all = new HashMap<>();
        for (Method m : c.getDeclaredMethods()) if (Modifier.isPublic(m.getModifiers())) all.put(m.getName(), m);
        return all;
    }

    private void go() throws Exception {
        int dials = r.nextInt(7);
        for (int i = 0; i < dials; i++) random("dial");
        for (int i = 0; i < 4; i++) random("spot");
        for (int i = 0; i < 6; i++) random("sky");
        for (int i = 0; i < 3; i++) random("sheet");
        for (int i = 0; i < 20; i++) random("write");
        for (int i = 0; i < 4; i++) random("shelf");
        if (r.nextInt(2) == 0) random("text");
        while (calls < CALLS && !differs) random(NAMES[r.nextInt(NAMES.length)]);
    }

    private void call(String name, long... values) throws Exception {
        if (calls == CALLS || differs) return;
        Method m = ASKED.get(name), d = DUE.get(name);
        Object[] args = new Object[values.length];
        for (int i = 0; i < args.length; i++) {
            if (m.getParameterTypes()[i] == long.class) args[i] = values[i];
            else args[i] = (int) values[i];
        }
        int got = (int) m.invoke(asked, args), want = (int) d.invoke(due, args);
        calls++;
        run.append(name).append(List.of(args)).append(" -> ").append(got);
        if (got != want) {
            differs = true;
            run.append(", due is ").append(want);
        }
        run.append('\n');
    }

    /** A number from least to most, or, now and then, one beyond or anywhere. */
    private int in(int least, int most) {
        if (r.nextInt(wild) == 0) {
            int[] beyond = {least - 1, most + 1, r.nextInt(), Integer.MIN_VALUE, Integer.MAX_VALUE, -1, least - 2};
            return beyond[r.nextInt(beyond.length)];
        }
        return least + r.nextInt(most - least + 1);
    }

    private int lag() { return r.nextInt(3) == 0 ? in(0, 99) : in(0, 40); }

    private void random(String name) throws Exception {
        int dials = Math.max(1, due.many(0));
        switch (name) {
            case "dial" -> call(name, in(1, 5), lag(), in(0, 9), in(0, 5));
            case "dialOf" -> call(name, in(0, dials - 1), in(0, 9));
            case "change" -> {
                int what = in(1, 4);
                int v = what == 1 ? lag() : what == 2 ? in(0, 9) : what == 3 ? in(0, 5) : in(0, 1);
                call(name, in(0, dials - 1), what, v);
            }
            case "remake" -> call(name, in(0, dials - 1), in(1, 5));
            case "sky" -> call(name, in(0, 15), in(0, 15));
            case "spot" -> call(name, in(0, 5), in(0, 1), r.nextInt(3) == 0 ? in(0, 9) : in(0, 2));
            case "spotOf" -> call(name, in(0, 5), in(0, 2));
            case "ends" -> call(name, r.nextInt(3) == 0 ? in(1, 16) : in(9, 16));
            case "state" -> call(name, in(0, 6));
            case "text" -> text();
            case "tape" -> {
                if (r.nextInt(3) == 0) call("rules");
                else call("feed", r.nextInt(2) == 0 ? r.nextLong() : 0x2020202020202020L, in(1, 8));
            }
            case "on" -> call(name, in(0, 16));
            case "when", "prideFor", "spotFor", "late" -> call(name, in(0, dials - 1));
            case "knots" -> call(name, in(-1, dials - 1));
            case "seats" -> call(name, r.nextInt(3) == 0 ? in(0, 99) : in(0, 9), in(0, 1));
            case "best", "ways", "prove" -> call(name, plan());
            case "ith" -> call(name, plan(), in(0, 3));
            case "order", "bars" -> {
                int set = r.nextInt(1 << dials) & r.nextInt(1 << dials);
                call(name, plan(), r.nextInt(8) == 0 ? in(0, 1 << dials) : set);
            }
            case "game", "play" -> call(name, Math.max(1, plan()));
            case "report" -> {
                int least = r.nextInt(60), most = least + r.nextInt(50);
                call(name, in(0, 15), in(0, 1), r.nextInt(6) == 0 ? in(0, 99) : least, r.nextInt(6) == 0 ? in(0, 99) : most);
            }
            case "lone" -> call(name, in(0, 3));
            case "seed" -> call(name, r.nextInt());
            case "times" -> call(name, r.nextInt(5) == 0 ? in(1, 40) : in(1, 6), r.nextInt(3) == 0 ? in(0, 999) : in(0, 120));
            case "row" -> call(name, in(0, 3), in(0, 2));
            case "alterRow" -> call(name, in(0, 3), in(0, 2), r.nextInt(3) == 0 ? r.nextInt() : r.nextInt(12));
            case "sheet" -> call(name, in(0, 3), r.nextInt(3) == 0 ? in(-1, 4) : 0, r.nextInt(3) == 0 ? in(0, 40) : in(4, 24));
            case "write" -> call(name, in(0, 3), in(0, 12), r.nextInt(3) == 0 ? r.nextInt() : r.nextInt(dials + 1));
            case "item" -> call(name, in(0, 3), r.nextInt(3) == 0 ? in(0, 4) : 0, in(0, 12));
            case "goAll", "wouldBe" -> call(name, in(0, 3), in(0, 12), r.nextInt(4) == 0 ? in(0, 20) : in(0, 4));
            case "shelf" -> call(name, in(0, 3), r.nextInt(3) == 0 ? in(0, 2) : 0, in(0, dials - 1));
            case "taken" -> call(name, in(0, 3), r.nextInt(3) == 0 ? in(10, 14) : in(0, 5));
            case "act" -> {
                int x = r.nextInt(3) == 0 ? r.nextInt() : r.nextInt(40) - 20;
                call(name, in(0, 3), in(0, 3), x);
            }
            case "trace" -> call(name, in(0, 10));
            case "many" -> call(name, in(0, 6));
            default -> call(name);
        }
    }

    private int plan() { return r.nextInt(5) == 0 ? in(0, 4) : in(0, 2); }

    /** A text by the grammar, now and then with a slip of the pen, fed by pieces and read. */
    private void text() throws Exception {
        StringBuilder t = new StringBuilder();
        int rules = r.nextInt(8) == 0 ? 7 + r.nextInt(4) : r.nextInt(4);
        for (int i = 0; i < rules; i++) {
            put(t, pick("dial", "dial", "noon", "tall", "guild", "low", "slit"));
            if (r.nextInt(4) != 0 && rules < 7) {
                put(t, "if");
                condition(t, 0);
            }
            put(t, pick("set", "keep", "argue"));
            put(t, ";");
        }
        if (r.nextInt(4) == 0 && t.length() > 0) {
            String bytes = " ;()<=>ax09N\n\u00e9" + (char) 0;
            char c = bytes.charAt(r.nextInt(bytes.length()));
            int at = r.nextInt(t.length());
            switch (r.nextInt(4)) {
                case 0 -> t.deleteCharAt(at);
                case 1 -> t.insert(at, c);
                case 2 -> t.setCharAt(at, c);
                default -> t.setLength(at);
            }
        }
        for (int i = 0; i < t.length(); ) {
            int n = Math.min(t.length() - i, 1 + r.nextInt(8));
            long eight = r.nextLong();
            if (n < 8) eight = eight << 8 * n;
            else eight = 0;
            for (int j = 0; j < n; j++) eight |= (long) t.charAt(i + j) << 8 * j;
            call("feed", eight, n);
            i += n;
        }
        call("rules");
    }

    private void condition(StringBuilder t, int open) {
        int terms = 1 + r.nextInt(r.nextInt(3) + 1);
        for (int i = 0; i < terms; i++) {
            if (i > 0) put(t, pick("and", "or"));
            while (r.nextInt(4) == 0) put(t, "not");
            if (r.nextInt(3) == 0 && open < 4) {
                put(t, "(");
                condition(t, open + 1);
                put(t, ")");
            } else {
                put(t, value());
                put(t, pick("<", "=", ">"));
                put(t, value());
            }
        }
    }

    private String value() {
        if (r.nextInt(5) < 3) return pick("chime", "lag", "lag", "pride", "sun", "number");
        if (r.nextInt(30) == 0) return pick("10000", "00001", "9999", "0000");
        return String.valueOf(r.nextInt(pick("a", "b").equals("a") ? 8 : 40));
    }

    private String pick(String... some) { return some[r.nextInt(some.length)]; }

    private void put(StringBuilder t, String word) {
        boolean letters = word.charAt(0) >= 'a', digits = Character.isDigit(word.charAt(0));
        char before = t.length() == 0 ? ' ' : t.charAt(t.length() - 1);
        if (letters && before >= 'a' || digits && Character.isDigit(before) || r.nextInt(6) == 0) t.append(' ');
        t.append(word);
    }
}
