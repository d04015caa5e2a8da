import java.util.ArrayList;
import java.util.List;
import java.util.function.IntSupplier;
import java.util.function.ToIntFunction;

/**
 * A DialSquare whose calls are written down, so that others like it can be made: what is tried is tried on one of
 * these, and what can be seen of it is looked up on another, as one object is promised for 512 calls alone.
 */
final class Run {
    private static final int PROMISED = 512;

    private final DialSquare square = new DialSquare();
    private final List<ToIntFunction<DialSquare>> calls = new ArrayList<>();
    /** Where the calls go in its place while something is tried. */
    private Run trial;
    private String all = "";
    private int allAt = -1;

    private int go(ToIntFunction<DialSquare> call) {
        if (trial != null) return trial.go(call);
        calls.add(call);
        if (calls.size() == PROMISED + 1) Check.fails("an object is called more than " + PROMISED + " times");
        return call.applyAsInt(square);
    }

    private Run like() {
        Run other = new Run();
        for (ToIntFunction<DialSquare> call : calls) other.go(call);
        return other;
    }

    int callsYet() { return calls.size(); }

    /** What a call answers of one like this. */
    int tried(IntSupplier call) { return triedOn(like(), call); }

    private int triedOn(Run other, IntSupplier call) {
        trial = other;
        int answer = call.getAsInt();
        trial = null;
        return answer;
    }

    /** What a call answers of one like this; and it must leave all as it would be without it. */
    int asked(IntSupplier call) {
        Run other = like();
        int answer = triedOn(other, call);
        if (!other.all().equals(all())) Check.fails("a call that answered " + answer + " changed something");
        return answer;
    }

    /** All that can be seen but for what is on THE TAPE and what is kept. */
    String seen() {
        StringBuilder s = new StringBuilder();
        like().look(s);
        return s.toString();
    }

    /** All that can be seen. */
    String all() {
        if (allAt == calls.size()) return all;
        StringBuilder s = new StringBuilder();
        Run other = like();
        other.look(s);
        s.append(other.rules()).append(' ');
        other.lookAtWills(s);
        s.append(other.again()).append(' ');
        other.lookAtKept(s);
        allAt = calls.size();
        all = s.toString();
        return all;
    }

    private void look(StringBuilder s) {
        int dials = many(0), rows = many(4), bodies = many(6);
        for (int k = 0; k < dials; k++) for (int w = 0; w < 10; w++) s.append(dialOf(k, w)).append(' ');
        for (int f = 0; f < 6; f++) s.append(spotOf(f, 2)).append(' ');
        s.append(on(16)).append(" rows ");
        for (int k = 0; k < rows; k++) for (int w = 0; w < 3; w++) s.append(row(k, w)).append(' ');
        for (int i = 0; i < bodies; i++) s.append(trace(i)).append(' ');
        for (int h = 0; h < 4; h++) lookAtShelf(s, h);
        for (int h = 0; h < 4; h++) lookAtSheet(s, h);
        s.append(many(5)).append(' ');
        lookAtKept(s);
    }

    private void lookAtShelf(StringBuilder s, int shelf) {
        s.append(" shelf ").append(taken(shelf, 0)).append(' ');
        for (int as = 10; as < 15; as++) s.append(taken(shelf, as)).append(' ');
    }

    private void lookAtSheet(StringBuilder s, int sheet) {
        s.append(" sheet ");
        for (int sort = 0; sort < 5; sort++) {
            int first = item(sheet, sort, 0), next = first;
            s.append(first).append(' ');
            for (int i = 1; i < 40 && first > -11 && next != -12; i++) {
                next = item(sheet, sort, i);
                s.append(next).append(' ');
            }
        }
    }

    private void lookAtWills(StringBuilder s) {
        int dials = many(0);
        for (int k = 0; k < dials; k++) s.append(dialOf(k, 9)).append(' ');
    }

    /** What keep() keeps; SKIES and z are lost by it. */
    private void lookAtKept(StringBuilder s) {
        int dials = many(0);
        s.append(" kept ").append(dials).append(' ').append(many(1)).append(' ').append(many(3)).append(' ');
        for (int w = 0; w < 7; w++) s.append(state(w)).append(' ');
        for (int k = 0; k < dials; k++) for (int w = 0; w < 5; w++) s.append(dialOf(k, w)).append(' ');
        lookAtWills(s);
        for (int f = 0; f < 6; f++) for (int w = 0; w < 2; w++) s.append(spotOf(f, w)).append(' ');
        for (int w = 0; w < 4; w++) s.append(lone(w)).append(' ');
        s.append(liar()).append(' ');
        for (int c = 0; c < 16; c++) s.append(sky(c, 0)).append(' ');
        s.append(seed(0)).append(' ');
    }

    int dial(int kind, int lag, int pride, int spot) { return go(s -> s.dial(kind, lag, pride, spot)); }
    int dialOf(int k, int what) { return go(s -> s.dialOf(k, what)); }
    int change(int k, int what, int v) { return go(s -> s.change(k, what, v)); }
    int remake(int k, int kind) { return go(s -> s.remake(k, kind)); }
    int sky(int chime, int v) { return go(s -> s.sky(chime, v)); }
    int spot(int f, int what, int v) { return go(s -> s.spot(f, what, v)); }
    int spotOf(int f, int what) { return go(s -> s.spotOf(f, what)); }
    int ends(int v) { return go(s -> s.ends(v)); }
    int anew() { return go(DialSquare::anew); }
    int state(int what) { return go(s -> s.state(what)); }
    int feed(long eight, int n) { return go(s -> s.feed(eight, n)); }
    int rules() { return go(DialSquare::rules); }
    int chime() { return go(DialSquare::chime); }
    int on(int n) { return go(s -> s.on(n)); }
    int when(int k) { return go(s -> s.when(k)); }
    int prideFor(int k) { return go(s -> s.prideFor(k)); }
    int spotFor(int k) { return go(s -> s.spotFor(k)); }
    int late(int k) { return go(s -> s.late(k)); }
    int middle() { return go(DialSquare::middle); }
    int knots(int what) { return go(s -> s.knots(what)); }
    int seats(int most, int what) { return go(s -> s.seats(most, what)); }
    int best(int n) { return go(s -> s.best(n)); }
    int ith(int n, int i) { return go(s -> s.ith(n, i)); }
    int ways(int n) { return go(s -> s.ways(n)); }
    int order(int n, int dials) { return go(s -> s.order(n, dials)); }
    int bars(int n, int dials) { return go(s -> s.bars(n, dials)); }
    int game(int n) { return go(s -> s.game(n)); }
    int play(int n) { return go(s -> s.play(n)); }
    int report(int k, int asked, int least, int most) { return go(s -> s.report(k, asked, least, most)); }
    int forget() { return go(DialSquare::forget); }
    int lone(int what) { return go(s -> s.lone(what)); }
    int liar() { return go(DialSquare::liar); }
    int seed(int v) { return go(s -> s.seed(v)); }
    int lot() { return go(DialSquare::lot); }
    int times(int n, int v) { return go(s -> s.times(n, v)); }
    int prove(int n) { return go(s -> s.prove(n)); }
    int row(int k, int what) { return go(s -> s.row(k, what)); }
    int alterRow(int k, int what, int v) { return go(s -> s.alterRow(k, what, v)); }
    int judge() { return go(DialSquare::judge); }
    int sheet(int sheet, int sort, int n) { return go(s -> s.sheet(sheet, sort, n)); }
    int write(int sheet, int i, int v) { return go(s -> s.write(sheet, i, v)); }
    int item(int sheet, int sort, int i) { return go(s -> s.item(sheet, sort, i)); }
    int goAll(int sheet, int i, int n) { return go(s -> s.goAll(sheet, i, n)); }
    int wouldBe(int sheet, int i, int n) { return go(s -> s.wouldBe(sheet, i, n)); }
    int shelf(int shelf, int what, int n) { return go(s -> s.shelf(shelf, what, n)); }
    int taken(int shelf, int as) { return go(s -> s.taken(shelf, as)); }
    int act(int shelf, int act, int x) { return go(s -> s.act(shelf, act, x)); }
    int trace(int i) { return go(s -> s.trace(i)); }
    int many(int what) { return go(s -> s.many(what)); }
    int keep() { return go(DialSquare::keep); }
    int again() { return go(DialSquare::again); }
}
