import java.util.function.IntSupplier;

/** What the tests of the promises share: what is due, refusals, and squares to begin with. */
abstract class Check {
    static final int BAD = -1, FULL = -2, NONE = -3, STATE = -4;
    static final int NOON = 1, TALL = 2, GUILD = 3, LOW = 4, SLIT = 5;
    static final int[] FAR = {Integer.MIN_VALUE, Integer.MAX_VALUE};

    static int wrong;
    static int checks;

    static void is(long want, long got) {
        checks++;
        if (want == got) return;
        wrong++;
        StringBuilder where = new StringBuilder();
        for (StackTraceElement e : new Throwable().getStackTrace()) {
            if (e.getMethodName().matches("p[0-9].*")) where.append(' ').append(e.getMethodName()).append(':').append(e.getLineNumber());
        }
        System.out.println("answered " + got + ", due is " + want + where);
    }

    static void end(String test) {
        System.out.println(test + ": " + checks + " checks, " + wrong + " wrong");
        if (wrong != 0) System.exit(1);
    }

    /** A refusal, and that nothing that can be asked has changed. */
    static void refuses(DialSquare x, int want, IntSupplier call) {
        String before = all(x);
        is(want, call.getAsInt());
        is(0, before.equals(all(x)) ? 0 : 1);
    }

    /** All that can be asked without a change (but what is kept). */
    static String all(DialSquare x) {
        StringBuilder s = new StringBuilder();
        for (int w = 0; w < 7; w++) s.append(x.state(w)).append(' ').append(x.many(w)).append(' ');
        for (int k = 0; k < 6; k++) for (int w = 0; w < 10; w++) s.append(x.dialOf(k, w)).append(' ');
        for (int f = 0; f < 6; f++) for (int w = 0; w < 3; w++) s.append(x.spotOf(f, w)).append(' ');
        for (int c = 0; c < 16; c++) {
            int was = x.sky(c, 0);
            x.sky(c, was);
            s.append(was).append(' ');
        }
        int z = x.seed(0);
        x.seed(z);
        s.append(z).append(' ').append(x.on(16)).append(' ').append(x.liar()).append(' ');
        for (int w = 0; w < 4; w++) s.append(x.lone(w)).append(' ');
        for (int k = 0; k < 4; k++) for (int w = 0; w < 3; w++) s.append(x.row(k, w)).append(' ');
        for (int i = 0; i < 12; i++) s.append(x.trace(i)).append(' ');
        for (int h = 0; h < 4; h++) {
            for (int as = 0; as < 15; as++) s.append(x.taken(h, as)).append(' ');
            for (int sort = 0; sort < 5; sort++) for (int i = 0; i < 41; i++) s.append(x.item(h, sort, i)).append(' ');
        }
        return s.toString();
    }

    /** Five DIALS; SUN is 1, CLOUD 2; LAGS 10, 20, 5, 30, 24; PAIRS are 0 and 2, 1 and 4. */
    static DialSquare square() {
        DialSquare x = new DialSquare();
        x.spot(0, 0, 1);
        x.spot(1, 1, 2);
        x.spot(4, 1, 6);
        x.dial(NOON, 10, 3, 0);
        x.dial(TALL, 20, 6, 1);
        x.dial(LOW, 5, 2, 2);
        x.dial(SLIT, 30, 9, 1);
        x.dial(GUILD, 24, 5, 3);
        return x;
    }

    /** As square(), and with something of everything else. */
    static DialSquare full() {
        DialSquare x = square();
        x.sheet(0, 0, 5);
        x.write(0, 0, 1);
        x.write(0, 1, 3);
        x.sheet(1, 2, 3);
        x.shelf(0, 0, 4);
        x.shelf(1, 1, 0);
        x.act(0, 3, 7);
        x.prove(2);
        x.report(3, 0, 20, 60);
        tape(x, "low if lag>40 argue; guild keep;");
        x.rules();
        x.seed(77);
        x.chime();
        tape(x, "dial");
        return x;
    }

    static void tape(DialSquare x, String text) {
        for (int i = 0; i < text.length(); i += 8) {
            int n = Math.min(8, text.length() - i);
            long eight = 0;
            for (int j = 0; j < n; j++) eight |= (long) text.charAt(i + j) << 8 * j;
            x.feed(eight, n);
        }
    }

    static int told(DialSquare x, String text) {
        tape(x, text);
        return x.rules();
    }
}
