import java.lang.management.ManagementFactory;
import java.lang.reflect.Constructor;
import java.lang.reflect.Field;
import java.lang.reflect.Method;
import java.lang.reflect.Modifier;
import java.nio.charset.StandardCharsets;
import java.nio.file.Files;
import java.nio.file.Path;
import java.util.Set;
import java.util.TreeSet;
import java.util.regex.Matcher;
import java.util.regex.Pattern;

/** What of ../shared/LANGUAGE.md can be seen from outside: the face, words that are not in it, and the room. */
public final class LanguageTest extends Check {
    private static final String FACE = """
            dial(int,int,int,int) dialOf(int,int) change(int,int,int) remake(int,int) sky(int,int)
            spot(int,int,int) spotOf(int,int) ends(int) anew() state(int) feed(long,int) rules() chime() on(int)
            when(int) prideFor(int) spotFor(int) late(int) middle() knots(int) seats(int,int) best(int) ith(int,int)
            ways(int) order(int,int) bars(int,int) game(int) play(int) report(int,int,int,int) forget() lone(int)
            liar() seed(int) lot() times(int,int) prove(int) row(int,int) alterRow(int,int,int) judge()
            sheet(int,int,int) write(int,int,int) item(int,int,int) goAll(int,int,int) wouldBe(int,int,int)
            shelf(int,int,int) taken(int,int) act(int,int,int) trace(int) many(int) keep() again()""";
    private static final String NOT_IN_IT = "throw|throws|try|catch|synchronized|assert|import static|package|"
            + "volatile|transient|native|strictfp|var|System\\.(?!arraycopy)\\w+|\\w+Exact|->|::|@|Random|Thread|"
            + "Integer\\.valueOf|hashCode|toString|[^\\x00-\\x7f]";

    public static void main(String[] args) throws Exception {
        face();
        nested();
        String source = Files.readString(Path.of(args[0]), StandardCharsets.ISO_8859_1);
        words(source);
        shortMethods(source);
        anyArguments();
        room();
        end("LanguageTest");
    }

    private static void face() {
        Set<String> due = new TreeSet<>(Set.of(FACE.trim().split("\\s+"))), seen = new TreeSet<>();
        Set<String> names = new TreeSet<>();
        for (Method m : DialSquare.class.getDeclaredMethods()) {
            if (Modifier.isPrivate(m.getModifiers())) continue;
            is(Modifier.PUBLIC, m.getModifiers());
            is(1, m.getReturnType() == int.class ? 1 : 0);
            seen.add(m.getName() + parameters(m.getParameterTypes()));
            names.add(m.getName());
        }
        is(51, seen.size());
        is(1, due.equals(seen) ? 1 : 0);
        for (Method m : DialSquare.class.getDeclaredMethods()) {
            if (Modifier.isPrivate(m.getModifiers())) is(0, names.contains(m.getName()) ? 1 : 0);
        }
        Constructor<?>[] made = DialSquare.class.getDeclaredConstructors();
        is(1, made.length);
        is(Modifier.PUBLIC, made[0].getModifiers());
        is(Modifier.PUBLIC | Modifier.FINAL, DialSquare.class.getModifiers());
        int constants = 0;
        for (Field f : DialSquare.class.getDeclaredFields()) {
            if (Modifier.isPrivate(f.getModifiers())) continue;
            is(Modifier.PUBLIC | Modifier.STATIC | Modifier.FINAL, f.getModifiers());
            constants++;
        }
        is(4, constants);
    }

    private static String parameters(Class<?>[] types) {
        StringBuilder s = new StringBuilder("(");
        for (Class<?> t : types) s.append(s.length() > 1 ? "," : "").append(t.getName());
        return s.append(')').toString();
    }

    /** Rules 2, 5 and 11. */
    private static void nested() {
        Class<?>[] inside = DialSquare.class.getDeclaredClasses();
        is(1, inside.length < 12 ? 1 : 0);
        for (Class<?> c : inside) {
            is(1, Modifier.isStatic(c.getModifiers()) && !Modifier.isPublic(c.getModifiers()) ? 1 : 0);
            members(c);
        }
        members(DialSquare.class);
    }

    private static void members(Class<?> c) {
        int fields = 0;
        for (Field f : c.getDeclaredFields()) {
            if (Modifier.isStatic(f.getModifiers())) is(1, Modifier.isFinal(f.getModifiers()) ? 1 : 0);
            else fields++;
        }
        is(1, fields <= 20 ? 1 : 0);
        for (Method m : c.getDeclaredMethods()) is(1, m.getParameterCount() <= 7 ? 1 : 0);
        for (Constructor<?> m : c.getDeclaredConstructors()) is(1, m.getParameterCount() <= 7 ? 1 : 0);
    }

    private static void words(String source) {
        String code = source.replaceAll("(?s)/\\*.*?\\*/", "").replaceAll("//[^\n]*", "");
        Matcher m = Pattern.compile("(?<!\\w)(" + NOT_IN_IT + ")").matcher(code);
        while (m.find()) {
            if (m.group().matches("\\w+") && m.end() < code.length() && Character.isJavaIdentifierPart(code.charAt(m.end()))) continue;
            System.out.println("not in the language: " + m.group());
            is(0, 1);
        }
        Set<String> imports = new TreeSet<>();
        for (Matcher i = Pattern.compile("import ([\\w.]+);").matcher(code); i.find(); ) imports.add(i.group(1));
        imports.removeAll(Set.of("java.util.Arrays", "java.util.ArrayList", "java.util.List"));
        is(0, imports.size());
    }

    /** Rule 11: a method ends some sixty lines behind its head, at most. */
    private static void shortMethods(String source) {
        String[] lines = source.split("\n");
        int methods = 0;
        for (int i = 0; i < lines.length; i++) {
            Matcher m = Pattern.compile("^((?:    ){1,2})(?:\\w+[\\[\\]]* )*\\w+\\([^()]*\\) \\{$").matcher(lines[i]);
            if (!m.matches() || lines[i].matches(" *(if|for|while|switch) .*")) continue;
            int end = i + 1;
            while (end < lines.length && !lines[end].equals(m.group(1) + "}")) end++;
            holds(end - i <= 60);
            methods++;
        }
        holds(methods > 150);
    }

    /** Rule 7: whatever is asked of whatever square, it answers. */
    private static void anyArguments() throws Exception {
        int[] some = {Integer.MIN_VALUE, Integer.MIN_VALUE + 1, -101, -2, -1, 0, 1, 2, 3, 5, 6, 14, 16, 20, 40, 99, 200, Integer.MAX_VALUE};
        for (Method m : DialSquare.class.getDeclaredMethods()) {
            if (Modifier.isPrivate(m.getModifiers())) continue;
            Class<?>[] types = m.getParameterTypes();
            int step = types.length < 3 ? 1 : types.length == 3 ? 5 : 7, all = 1;
            for (int i = 0; i < types.length; i++) all *= some.length;
            for (int state = 0; state < 4; state++) {
                DialSquare x = stateOf(state);
                for (int c = 0; c < all; c += step) {
                    if (c % 300 < step) x = stateOf(state);
                    Object[] arguments = new Object[types.length];
                    for (int i = 0, rest = c; i < types.length; i++, rest /= some.length) {
                        int v = some[rest % some.length];
                        if (types[i] == long.class) arguments[i] = (long) v;
                        else arguments[i] = v;
                    }
                    m.invoke(x, arguments);
                }
            }
        }
        holds(true);
    }

    /** Nothing, some of everything, as much as can be, and that when it is OVER. */
    private static DialSquare stateOf(int state) {
        DialSquare x = new DialSquare();
        if (state == 0) return x;
        for (int k = 0; k < 3 * Math.min(state, 2); k++) x.dial(1 + k % 5, 9 * k, k, 5 - k);
        for (int c = 0; c < 16; c++) x.sky(c, 15 - c);
        for (int i = 0; i < 4; i++) {
            x.sheet(i, i == 3 ? 0 : i, state == 1 ? 3 : 40);
            x.shelf(i, i % 2, i);
        }
        for (int r = 0; r < 3 * Math.min(state, 2); r++) x.report(r, r % 2, 3 * r, 90);
        x.feed(0x7065656b20776f6cL, 8);
        x.feed(0x3b, 1);
        is(1, x.rules());
        x.feed(0x6c616964, 4);
        for (int i = 0; i < 24 && state > 1; i++) x.feed(0x2020202020202020L, 8);
        if (state > 1) is(200, x.feed(0x2020202020202020L, 4));
        x.prove(state == 1 ? 2 : 4);
        x.act(0, 3, 5);
        x.keep();
        x.ends(16);
        for (int c = 0; c < 16 && state == 3; c++) x.chime();
        return x;
    }

    /** Objects that are called 512 times stay far within the room, of 7.3 million fields and elements, of a run of many. */
    private static void room() {
        var threads = (com.sun.management.ThreadMXBean) ManagementFactory.getThreadMXBean();
        for (int time = 0; time < 2; time++) {
            long before = threads.getCurrentThreadAllocatedBytes();
            dearest();
            long told = threads.getCurrentThreadAllocatedBytes();
            asked();
            long all = threads.getCurrentThreadAllocatedBytes();
            if (time == 0) continue;
            System.out.println("LanguageTest: 512 calls make " + (told - before) + " bytes, or " + (all - told));
            is(1, told - before < 200000 ? 1 : 0);
            is(1, all - told < 20000 ? 1 : 0);
        }
    }

    /** Of all calls rules() alone makes anything. */
    private static void dearest() {
        DialSquare x = new DialSquare();
        for (int i = 0; i < 256; i++) {
            x.feed(0x3b74657320776f6cL, 8);
            is(1, x.rules());
        }
    }

    private static void asked() {
        DialSquare x = new DialSquare();
        for (int k = 0; k < 6; k++) x.dial(1 + k % 5, 5 * k, k, k);
        for (int i = 0; i < 28; i++) {
            x.best(4);
            x.bars(2, 31);
            x.game(2);
            x.spotFor(1);
            x.late(1);
            x.middle();
            x.knots(1);
            x.seats(9, 1);
            x.report(i % 16, 0, 0, 99);
            x.lone(1);
            x.liar();
            x.times(3, 1);
            x.prove(2);
            x.judge();
            x.sheet(0, i % 5, 40);
            x.shelf(0, 0, i % 6);
            x.act(0, 3, i);
            x.keep();
        }
    }
}
