import java.io.IOException;
import java.nio.file.Files;
import java.nio.file.Path;
import java.util.ArrayList;
import java.util.List;
import java.util.function.IntSupplier;
import java.util.function.IntUnaryOperator;

/** What the tests of the promises share: what is due, refusals, and squares to begin with. */
abstract class Check {
    static final int BAD = -1, FULL = -2, NONE = -3, STATE = -4;
    static final int NO_ROW = -9, NOTHING = -11, OUTSIDE = -12, OTHER = -13, BELOW = -14, PARTED = -15;
    static final int NOON = 1, TALL = 2, GUILD = 3, LOW = 4, SLIT = 5;
    static final int LAG = 1, PRIDE = 2, SPOT = 3, RIGHT = 4, SHADES = 5, SLIPS = 6, PAYS = 7, MAY = 8, WILL = 9;
    static final int[] FAR = {Integer.MIN_VALUE, Integer.MAX_VALUE};

    private static final List<String> sentences = new ArrayList<>();
    private static int wrong;
    private static int checks;

    /** The words of the document that the checks behind this are about. */
    static void says(String words) {
        sentences.add(words);
    }

    static void is(long want, long got) {
        checks++;
        if (want != got) fails("answered " + got + ", due is " + want);
    }

    static void holds(boolean so) {
        is(1, so ? 1 : 0);
    }

    static void fails(String what) {
        wrong++;
        StringBuilder where = new StringBuilder(what);
        for (StackTraceElement e : new Throwable().getStackTrace()) {
            boolean own = e.getClassName().endsWith("Test") && !e.getMethodName().matches("main|lambda.*");
            if (own) where.append(' ').append(e.getMethodName()).append(':').append(e.getLineNumber());
        }
        if (!sentences.isEmpty()) where.append(" \"").append(sentences.get(sentences.size() - 1)).append('"');
        System.out.println(where);
    }

    static void end(String test) {
        notInDocument();
        System.out.println(test + ": " + checks + " checks, " + wrong + " wrong");
        if (wrong != 0) System.exit(1);
    }

    /** Tells which of the quoted words the document (-Ddoc=) doesn't have any more: what is due may have changed. */
    private static void notInDocument() {
        String path = System.getProperty("doc");
        if (path == null) return;
        try {
            String document = Files.readString(Path.of(path));
            for (String s : sentences) {
                if (!document.contains(s)) System.out.println("note: the document doesn't say: " + s);
            }
        } catch (IOException e) {
            System.out.println("note: the document can't be read: " + e);
        }
    }

    /** A refusal, that changes nothing. */
    static void refuses(Run x, int want, IntSupplier call) {
        is(want, x.asked(call));
    }

    /** An answer, that changes nothing. */
    static void asks(Run x, int want, IntSupplier call) {
        is(want, x.asked(call));
    }

    /** Whatever it answers. */
    static void unchanged(Run x, IntSupplier call) {
        x.asked(call);
    }

    /** At least and most, and next to them inside, a number is taken; below and above it is BAD. */
    static void takes(Run x, int least, int most, IntUnaryOperator call) {
        takes(x, least, most, BAD, BAD, call);
    }

    static void takes(Run x, int least, int most, int below, int above, IntUnaryOperator call) {
        refuses(x, below, () -> call.applyAsInt(least - 1));
        refuses(x, below, () -> call.applyAsInt(FAR[0]));
        refuses(x, above, () -> call.applyAsInt(most + 1));
        refuses(x, above, () -> call.applyAsInt(FAR[1]));
        for (int v : new int[] {least, Math.min(least + 1, most), Math.max(most - 1, least), most}) {
            int answer = x.tried(() -> call.applyAsInt(v));
            holds(answer != below && answer != above);
        }
    }

    /** Five DIALS; SUN is 1, CLOUD 2; LAGS 10, 20, 5, 30, 24; PAIRS are 0 and 2, 1 and 4. */
    static Run square() {
        Run x = new Run();
        x.spot(0, 0, 1);
        x.spot(1, 1, 2);
        x.spot(4, 1, 6);
        x.dial(NOON, 10, 3, 0);
        x.dial(TALL, 20, 6, 1);
        x.dial(LOW, 5, 2, 2);
        x.dial(SLIT, 30, 9, 1);
        x.dial(GUILD, 24, 5, 3);
        return x;
    }

    /** As square(), and with something of everything else. */
    static Run full() {
        Run x = square();
        x.sheet(0, 0, 5);
        x.write(0, 0, 1);
        x.write(0, 1, 3);
        x.sheet(1, 2, 3);
        x.shelf(0, 0, 4);
        x.shelf(1, 1, 0);
        x.act(0, 3, 7);
        x.prove(2);
        x.report(3, 0, 20, 60);
        told(x, "low if lag>40 argue; guild keep;");
        x.keep();
        x.seed(77);
        x.chime();
        tape(x, "dial");
        return x;
    }

    /** So many noons of LAG and PRIDE 0, on SPOT 0. */
    static Run noons(int n) {
        Run x = new Run();
        for (int k = 0; k < n; k++) x.dial(NOON, 0, 0, 0);
        return x;
    }

    /** So many noons that PAY 9, 8, .. and don't AGREE, so that what a CHIME is WORTH tells the ACT: 10 less it. */
    static Run spread(int n) {
        Run x = noons(n);
        for (int k = 0; k < n; k++) x.change(k, LAG, 6 * k);
        return x;
    }

    /** One DIAL of a KIND, with PRIDE 0. */
    static Run one(int kind, int lag, int spot) {
        Run x = new Run();
        x.dial(kind, lag, 0, spot);
        return x;
    }

    /** Three noons that AGREE and keep, so that each CHIME is WORTH 1, whatever is told. */
    static Run clockwork() {
        return ruled(noons(3), "dial keep;");
    }

    static Run ruled(Run x, String text) {
        told(x, text);
        return x;
    }

    static Run over(Run x) {
        x.ends(x.state(0) + 1);
        x.chime();
        return x;
    }

    /** With a SHEET 0 of such bytes. */
    static Run sheeted(Run x, int... bytes) {
        x.sheet(0, 0, bytes.length);
        for (int i = 0; i < bytes.length; i++) x.write(0, i, bytes[i]);
        return x;
    }

    /** What the CHIME that comes is WORTH behind an ACT; SHEET 3 is used for it. */
    static int acted(Run x, int act) {
        x.sheet(3, 0, 1);
        x.write(3, 0, act);
        return x.goAll(3, 0, 1);
    }

    static void chimes(Run x, int n) {
        for (int i = 0; i < n; i++) x.chime();
    }

    static void tape(Run x, String text) {
        for (int i = 0; i < text.length(); i += 8) {
            int n = Math.min(8, text.length() - i);
            long eight = 0;
            for (int j = 0; j < n; j++) eight |= (long) text.charAt(i + j) << 8 * j;
            x.feed(eight, n);
        }
    }

    static int told(Run x, String text) {
        tape(x, text);
        return x.rules();
    }
}
