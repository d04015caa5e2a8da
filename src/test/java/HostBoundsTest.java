/** Rows, sheets, shelves, acts, the trace and what is kept, at their bounds: promises 37 to 52. */
public final class HostBoundsTest extends Check {
    private static final int[] KINDS = {NOON, TALL, GUILD, LOW, SLIT};
    private static final int[] XS = {
        0, 1, -1, 2, 3, -3, 7, 100, FAR[0], FAR[1], FAR[0] + 1, FAR[1] - 1, FAR[0] + 2, FAR[0] + 3, 1 << 30, -(1 << 30),
        (1 << 29) - 1, 1 << 29, -(1 << 29), -(1 << 29) - 1};

    private interface Items {
        int of(Run x, int sheet, int i, int n);
    }

    public static void main(String[] args) {
        prove();
        rows();
        alterRows();
        judgeActs();
        judgeOver();
        judgeOthers();
        sheets();
        sheetOf0To40();
        sheetMissing();
        writePlaces();
        narrowed();
        itemSorts();
        itemsAsLowAsRefusals();
        goAllTaken();
        goAllPlaces();
        goAllActs();
        goAllOver();
        wouldBeTaken();
        wouldBePlaces();
        wouldBeActs();
        shelves();
        shelfOfRow();
        shelfOfDial();
        takenAs();
        actsThatWrap();
        actsAtTheEnds();
        parted();
        partedChangesNothing();
        noAct();
        traces();
        traceBounds();
        many();
        keeps();
        keptLatest();
        end("HostBoundsTest");
    }

    private static void prove() {
        says("ROWS of the FIRST of the BEST PLANS of n (0 to 4): how many. BAD.");
        for (Run x : new Run[] {new Run(), full(), over(full()), noons(6)}) takes(x, 0, 4, x::prove);
        for (int left = 0; left < 6; left++) {
            Run x = clockwork();
            x.ends(6);
            chimes(x, 6 - left);
            for (int n = 0; n < 5; n++) {
                is(Math.min(n, left), x.prove(n));
                is(Math.min(n, left), x.many(4));
                for (int bad : new int[] {-1, 5, FAR[0], FAR[1]}) is(BAD, x.prove(bad));
                is(Math.min(n, left), x.many(4));
            }
            is(6 - left, x.state(0));
        }
        Run y = noons(6);
        is(4, y.prove(4));
        int[] worth = {9 + 7, 9 + 7, 9 + 7, 9 + 7};
        for (int k = 0; k < 4; k++) {
            is(k + 1, y.row(k, 0));
            is(worth[k], y.row(k, 1));
            is((2 << k) - 1, y.row(k, 2));
        }
    }

    private static void rows() {
        says("Of ROW k: what = 0 ACT, 1 WORTH, 2 those RIGHT. -9: there is none such, another what.");
        Run none = new Run();
        for (int k : new int[] {-1, 0, 1, 4, FAR[0], FAR[1]}) refuses(none, NO_ROW, () -> none.row(k, 0));
        for (int n = 1; n < 5; n++) {
            Run x = square();
            x.prove(n);
            int last = n - 1;
            for (int what = 0; what < 3; what++) {
                int w = what;
                takes(x, 0, last, NO_ROW, NO_ROW, k -> x.row(k, w));
                asks(x, x.row(last, w), () -> x.row(last, w));
            }
            for (int k : new int[] {0, last}) takes(x, 0, 2, NO_ROW, NO_ROW, what -> x.row(k, what));
            x.prove(last);
            refuses(x, NO_ROW, () -> x.row(last, 0));
        }
    }

    private static void alterRows() {
        says("It becomes v: what it was. -9 likewise.");
        Run none = new Run();
        refuses(none, NO_ROW, () -> none.alterRow(0, 0, 0));
        for (int n = 1; n < 5; n++) {
            Run x = square();
            x.prove(n);
            for (int what = 0; what < 3; what++) {
                int w = what;
                takes(x, 0, n - 1, NO_ROW, NO_ROW, k -> x.alterRow(k, w, 5));
                int was = x.row(n - 1, what);
                for (int v : new int[] {FAR[0], FAR[1], -1, 0, -9, NO_ROW, 7}) {
                    is(was, x.alterRow(n - 1, what, v));
                    is(v, x.row(n - 1, what));
                    was = v;
                }
            }
            for (int k : new int[] {0, n - 1}) takes(x, 0, 2, NO_ROW, NO_ROW, what -> x.alterRow(k, what, FAR[0]));
        }
    }

    private static void judgeActs() {
        says("right is one whose ACT is one, if it isn't OVER, the others as they are then.");
        for (int dials = 0; dials < 7; dials++) {
            Run x = ruled(noons(dials), "dial keep;");
            x.prove(4);
            for (int k = 0; k < 4; k++) {
                for (int act = 0; act <= dials; act++) {
                    x.alterRow(k, 0, act);
                    is(0, x.judge());
                }
                for (int act : new int[] {-1, dials + 1, FAR[0], FAR[1], 256}) {
                    x.alterRow(k, 0, act);
                    is(k + 1, x.judge());
                }
                x.alterRow(k, 0, 0);
            }
        }
    }

    private static void judgeOver() {
        says("THE READER takes ROWS as such: 0 all is right; else the first ROW that isn't, and 1 more.");
        Run x = clockwork();
        asks(x, 0, x::judge);
        x.prove(4);
        int[] due = {0, 2, 3, 4, 0, 0};
        for (int end = 1; end < 6; end++) {
            x.ends(end);
            asks(x, due[end], x::judge);
        }
        x.ends(1);
        x.chime();
        asks(x, 1, x::judge);
        is(0, x.prove(4));
        asks(x, 0, x::judge);
        Run none = over(new Run());
        is(0, none.judge());
    }

    private static void judgeOthers() {
        says("THE READER takes ROWS as a PLAN, from how it is now");
        Run x = noons(6);
        x.prove(4);
        for (int k = 0; k < 4; k++) {
            for (int what = 1; what < 3; what++) {
                int was = x.row(k, what);
                for (int v : new int[] {was - 1, was + 1, -was, was + 64, FAR[0], FAR[1]}) {
                    x.alterRow(k, what, v);
                    is(k + 1, x.judge());
                }
                x.alterRow(k, what, was);
            }
        }
        x.alterRow(3, 1, 0);
        is(4, x.judge());
        x.alterRow(1, 2, 0);
        is(2, x.judge());
        x.alterRow(0, 0, 2);
        asks(x, 1, x::judge);
    }

    private static void sheets() {
        says("A SHEET becomes a row of n of a sort, all 0, or missing (sort -1; n counts nothing then): 1. BAD: no such SHEET, sort, n above 40; -14.");
        for (Run x : new Run[] {new Run(), full()}) {
            for (int sort = -1; sort < 5; sort++) {
                int s = sort;
                takes(x, 0, 3, sheet -> x.sheet(sheet, s, 1));
                for (int sheet : new int[] {0, 3}) if (s >= 0) takes(x, 0, 40, BELOW, BAD, n -> x.sheet(sheet, s, n));
            }
            for (int sheet : new int[] {0, 3}) takes(x, -1, 4, sort -> x.sheet(sheet, sort, 1));
            for (int n : new int[] {-1, FAR[0], 41}) {
                for (int sheet : new int[] {-1, 4}) refuses(x, BAD, () -> x.sheet(sheet, 0, n));
                for (int sort : new int[] {-2, 5}) refuses(x, BAD, () -> x.sheet(0, sort, n));
            }
            for (int sheet : new int[] {-1, 4}) refuses(x, BAD, () -> x.sheet(sheet, -1, 1));
        }
    }

    private static void sheetOf0To40() {
        says("SHEETS 0 to 3 are rows of bytes (sort 0), shorts (1), ints (2), longs (3) or booleans (4), 40 at most, or missing (at first).");
        for (int sort = 0; sort < 5; sort++) {
            for (int n : new int[] {0, 1, 39, 40}) {
                Run x = new Run();
                is(1, x.sheet(3, sort, n));
                for (int i = 0; i < n; i++) is(0, x.item(3, sort, i));
                is(OUTSIDE, x.item(3, sort, n));
                is(OUTSIDE, x.item(3, sort, 40));
                for (int i = 0; i < n; i++) is(1, x.write(3, i, 1));
                for (int i = 0; i < n; i++) is(1, x.item(3, sort, i));
                is(1, x.sheet(3, sort, n));
                for (int i = 0; i < n; i++) is(0, x.item(3, sort, i));
                is(1, x.sheet(3, (sort + 1) % 5, 40));
                is(0, x.item(3, (sort + 1) % 5, 39));
                is(OTHER, x.item(3, sort, 0));
            }
        }
    }

    private static void sheetMissing() {
        says("or missing (sort -1; n counts nothing then): 1.");
        Run x = new Run();
        for (int sheet = 0; sheet < 4; sheet++) {
            int s = sheet;
            for (int sort = 0; sort < 5; sort++) {
                int as = sort;
                for (int i : new int[] {0, -1, 40}) refuses(x, NOTHING, () -> x.item(s, as, i));
            }
            for (int i : new int[] {0, -1, 40}) refuses(x, NOTHING, () -> x.write(s, i, 1));
            for (int n : new int[] {0, 1, 40, 41, -1, FAR[0], FAR[1]}) {
                x.sheet(s, 0, 2);
                is(1, x.sheet(s, -1, n));
                is(NOTHING, x.item(s, 0, 0));
            }
        }
    }

    private static void writePlaces() {
        says("Item i becomes v, narrowed to its sort (booleans: whether it is not 0): 1. BAD: no such SHEET; -11; -12.");
        for (int sort = 0; sort < 5; sort++) {
            int as = sort;
            for (int n : new int[] {1, 2, 40}) {
                Run x = new Run();
                for (int sheet = 0; sheet < 4; sheet++) x.sheet(sheet, sort, n);
                takes(x, 0, 3, sheet -> x.write(sheet, n - 1, 1));
                takes(x, 0, n - 1, OUTSIDE, OUTSIDE, i -> x.write(0, i, 1));
                takes(x, 0, n - 1, OUTSIDE, OUTSIDE, i -> x.item(3, as, i));
                for (int i : new int[] {-1, n}) refuses(x, BAD, () -> x.write(4, i, 1));
            }
            Run empty = new Run();
            empty.sheet(1, sort, 0);
            for (int i : new int[] {0, -1, 1, FAR[0], FAR[1]}) {
                refuses(empty, OUTSIDE, () -> empty.write(1, i, 1));
                refuses(empty, OUTSIDE, () -> empty.item(1, as, i));
                refuses(empty, NOTHING, () -> empty.write(2, i, 1));
                refuses(empty, BAD, () -> empty.write(-1, i, 1));
            }
        }
    }

    private static void narrowed() {
        says("(0 to 4; of longs the lowest 32 bits; of booleans 1, 0)");
        int[] values = {
            0, 1, -1, 127, 128, 129, 255, 256, 257, -127, -128, -129, -130, -256, 32767, 32768, 32769, 65535, 65536, 65537,
            -32767, -32768, -32769, -65536, 1 << 30, FAR[0], FAR[0] + 1, FAR[1], FAR[1] - 1};
        int[] bytes = {
            0, 1, -1, 127, -128, -127, -1, 0, 1, -127, -128, 127, 126, 0, -1, 0, 1, -1, 0, 1, 1, 0, -1, 0, 0, 0, 1, -1, -2};
        int[] shorts = {
            0, 1, -1, 127, 128, 129, 255, 256, 257, -127, -128, -129, -130, -256, 32767, -32768, -32767, -1, 0, 1, -32767,
            -32768, 32767, 0, 0, 0, 1, -1, -2};
        for (int sort = 0; sort < 5; sort++) {
            Run x = new Run();
            x.sheet(0, sort, 40);
            for (int i = 0; i < values.length; i++) is(1, x.write(0, i, values[i]));
            for (int i = 0; i < values.length; i++) {
                int v = values[i];
                int[] due = {bytes[i], shorts[i], v, v, v == 0 ? 0 : 1};
                is(due[sort], x.item(0, sort, i));
            }
            is(1, x.write(0, 1, 0));
            is(0, x.item(0, sort, 1));
            is(0, x.item(0, sort, 0));
        }
    }

    private static void itemSorts() {
        says("Item i, taken for a sort (0 to 4; of longs the lowest 32 bits; of booleans 1, 0). BAD: no such SHEET, sort; -13; -11; -12.");
        for (int sort = 0; sort < 5; sort++) {
            Run x = new Run();
            for (int sheet = 0; sheet < 3; sheet++) x.sheet(sheet, sort, 2);
            for (int as = 0; as < 5; as++) {
                int a = as;
                takes(x, 0, 3, sheet -> x.item(sheet, a, 0));
                for (int i : new int[] {0, 1, 2, -1, FAR[0], FAR[1]}) {
                    if (as != sort) refuses(x, OTHER, () -> x.item(0, a, i));
                    refuses(x, NOTHING, () -> x.item(3, a, i));
                    refuses(x, BAD, () -> x.item(4, a, i));
                }
                asks(x, as == sort ? 0 : OTHER, () -> x.item(0, a, 1));
            }
            for (int sheet : new int[] {0, 3}) {
                for (int i : new int[] {0, 2}) takes(x, 0, 4, as -> x.item(sheet, as, i));
            }
            refuses(x, BAD, () -> x.item(-1, -1, -1));
        }
    }

    private static void itemsAsLowAsRefusals() {
        says("(An item may be as low as these, too.)");
        for (int sort = 0; sort < 4; sort++) {
            Run x = new Run();
            x.sheet(2, sort, 6);
            int[] low = {BAD, OTHER, NOTHING, OUTSIDE, BELOW, STATE};
            for (int i = 0; i < 6; i++) x.write(2, i, low[i]);
            for (int i = 0; i < 6; i++) is(low[i], x.item(2, sort, i));
        }
    }

    private static void goAllTaken() {
        says("BAD: no such SHEET, n; -13; -11; -12: what stood ahead was done.");
        itemsTaken(Run::goAll);
    }

    /** What goAll() and wouldBe() refuse alike. */
    private static void itemsTaken(Items items) {
        Run x = clockwork();
        x.ends(16);
        for (int sheet = 0; sheet < 4; sheet++) x.sheet(sheet, 0, 20);
        takes(x, 0, 3, sheet -> items.of(x, sheet, 0, 1));
        takes(x, 0, 20, n -> items.of(x, 0, 0, n));
        takes(x, 0, 20, n -> items.of(x, 3, 20, n));
        for (int sort = 1; sort < 5; sort++) {
            x.sheet(1, sort, 2);
            itemsRefused(items, x, 1, OTHER);
        }
        x.sheet(2, -1, 0);
        itemsRefused(items, x, 2, NOTHING);
        for (int n : new int[] {-1, 0, 1, 21}) refuses(x, BAD, () -> items.of(x, 4, 0, n));
    }

    private static void itemsRefused(Items items, Run x, int sheet, int refusal) {
        for (int n : new int[] {0, 1, 3, 20}) {
            for (int i : new int[] {0, -1, 2, FAR[1]}) refuses(x, refusal, () -> items.of(x, sheet, i, n));
        }
        for (int n : new int[] {-1, 21}) refuses(x, BAD, () -> items.of(x, sheet, 0, n));
    }

    private static void goAllPlaces() {
        says("n (0 to 20) items of a SHEET taken for bytes, from item i on, are ACTS, each followed by a CHIME");
        for (int size : new int[] {0, 1, 2, 20, 40}) {
            Run x = clockwork();
            x.ends(16);
            x.sheet(0, 0, size);
            for (int n = 0; n <= 20; n += n < 3 ? 1 : 8) {
                int many = n;
                for (int i : new int[] {-1, -n, size, size + 1, FAR[0], FAR[1], FAR[1] - 1}) {
                    if (n == 0 || i != 0) refuses(x, n == 0 ? 0 : OUTSIDE, () -> x.goAll(0, i, many));
                }
                if (n > size) continue;
                for (int i : new int[] {0, (size - n) / 2, size - n}) is(Math.min(16, n), x.tried(() -> x.goAll(0, i, many)));
            }
            is(OUTSIDE, x.goAll(0, Math.max(0, size - 2), 3));
            is(Math.min(size, 2), x.state(0));
        }
    }

    private static void goAllActs() {
        says("(what is none, or when it is OVER, is left out): what these CHIMES were WORTH together.");
        for (int dials = 0; dials < 7; dials++) {
            Run x = sheeted(spread(dials), -1, 0, dials, dials + 1, 127, -128);
            int[] chimes = {0, 1, 1, 0, 0, 0};
            int pays = dials == 0 ? 0 : 10 - dials;
            int[] worth = {0, 0, pays, 0, 0, 0};
            for (int i = 0; i < 6; i++) {
                int at = i;
                int was = x.state(0);
                is(worth[i], x.goAll(0, at, 1));
                is(was + chimes[i], x.state(0));
            }
            is(dials == 0 ? 0 : 1 << dials - 1, x.state(4));
            is(0, x.goAll(0, 0, 6));
            is(4, x.state(0));
        }
    }

    private static void goAllOver() {
        says("-12: what stood ahead was done.");
        Run x = clockwork();
        x.ends(3);
        x.sheet(0, 0, 5);
        is(3, x.goAll(0, 0, 5));
        is(3, x.state(0));
        is(1, x.state(3));
        asks(x, 0, () -> x.goAll(0, 0, 5));
        asks(x, 0, () -> x.goAll(0, 5, 0));
        refuses(x, OUTSIDE, () -> x.goAll(0, 0, 6));
        refuses(x, OUTSIDE, () -> x.goAll(0, 5, 1));
        x.ends(5);
        is(OUTSIDE, x.goAll(0, 4, 2));
        is(4, x.state(0));
        is(4, x.state(2));
        is(OUTSIDE, x.goAll(0, 2, 20));
        is(5, x.state(0));
        is(5, x.state(2));
    }

    private static void wouldBeTaken() {
        says("n (0 to 20) items likewise: what they would be WORTH. BAD: no such SHEET, n; -13; -11; then, by items, -12; STATE: one is no ACT, or it would be OVER ahead of it.");
        itemsTaken(Run::wouldBe);
    }

    private static void wouldBePlaces() {
        says("then, by items, -12; STATE");
        for (int size : new int[] {0, 1, 2, 16, 40}) {
            Run x = clockwork();
            x.ends(16);
            x.sheet(0, 0, size);
            for (int n = 0; n <= 16; n += n < 3 ? 1 : 13) {
                int many = n;
                for (int i : new int[] {-1, -n, size, size + 1, FAR[0], FAR[1], FAR[1] - 1}) {
                    if (n == 0 || i != 0) refuses(x, n == 0 ? 0 : OUTSIDE, () -> x.wouldBe(0, i, many));
                }
                if (n > size) refuses(x, OUTSIDE, () -> x.wouldBe(0, 0, many));
                if (n > size) continue;
                for (int i : new int[] {0, (size - n) / 2, size - n}) asks(x, n, () -> x.wouldBe(0, i, many));
                refuses(x, OUTSIDE, () -> x.wouldBe(0, size - many, many + 1));
            }
            refuses(x, size < 16 ? OUTSIDE : size == 16 ? OUTSIDE : STATE, () -> x.wouldBe(0, 0, 17));
        }
    }

    private static void wouldBeActs() {
        says("STATE: one is no ACT, or it would be OVER ahead of it.");
        for (int dials = 0; dials < 7; dials++) {
            Run x = sheeted(spread(dials), 0, dials, dials + 1, -1, 127, -128, 0);
            int pays = dials == 0 ? 0 : 10 - dials;
            asks(x, 0, () -> x.wouldBe(0, 0, 1));
            asks(x, pays, () -> x.wouldBe(0, 1, 1));
            asks(x, pays, () -> x.wouldBe(0, 0, 2));
            for (int i = 2; i < 6; i++) {
                int at = i;
                for (int n : new int[] {1, 2, 20}) refuses(x, STATE, () -> x.wouldBe(0, at, n));
            }
            refuses(x, STATE, () -> x.wouldBe(0, 0, 3));
            refuses(x, STATE, () -> x.wouldBe(0, 0, 20));
            refuses(x, OUTSIDE, () -> x.wouldBe(0, 6, 2));
            refuses(x, OUTSIDE, () -> x.wouldBe(0, -1, 5));
        }
        Run y = sheeted(clockwork(), 0, 0, 0);
        y.ends(2);
        asks(y, 2, () -> y.wouldBe(0, 0, 2));
        refuses(y, STATE, () -> y.wouldBe(0, 0, 3));
        refuses(y, STATE, () -> y.wouldBe(0, 0, 4));
        refuses(y, OUTSIDE, () -> y.wouldBe(0, 1, 3));
        chimes(y, 2);
        asks(y, 0, () -> y.wouldBe(0, 0, 0));
        refuses(y, STATE, () -> y.wouldBe(0, 0, 1));
        refuses(y, OUTSIDE, () -> y.wouldBe(0, 3, 1));
    }

    private static void shelves() {
        says("A SHELF holds DIAL n (what 0), the row of SHEET n (1; nothing, if missing), nothing (2): 1. BAD: no such SHELF, what, thing.");
        for (Run x : new Run[] {full(), noons(6), one(LOW, 0, 0)}) {
            int dials = x.many(0);
            for (int what = 0; what < 3; what++) {
                int w = what;
                takes(x, 0, 3, shelf -> x.shelf(shelf, w, 0));
            }
            for (int shelf : new int[] {0, 3}) {
                takes(x, 0, 2, what -> x.shelf(shelf, what, 0));
                takes(x, 0, dials - 1, n -> x.shelf(shelf, 0, n));
                takes(x, 0, 3, n -> x.shelf(shelf, 1, n));
                for (int n : new int[] {0, -1, 6, FAR[0], FAR[1]}) is(1, x.shelf(shelf, 2, n));
            }
            refuses(x, BAD, () -> x.shelf(4, 3, -1));
            refuses(x, BAD, () -> x.shelf(-1, 2, 0));
        }
        Run none = new Run();
        for (int shelf = 0; shelf < 4; shelf++) {
            int s = shelf;
            for (int k : new int[] {0, -1, 5}) refuses(none, BAD, () -> none.shelf(s, 0, k));
            is(1, none.shelf(s, 1, 3));
            is(NOTHING, none.taken(s, 0));
            is(1, none.shelf(s, 2, 0));
            is(NOTHING, none.taken(s, 10));
        }
    }

    private static void shelfOfRow() {
        says("for a row of sort as - 10 (as 10 to 14): how many items.");
        for (int sort = 0; sort < 5; sort++) {
            for (int n : new int[] {0, 1, 39, 40}) {
                Run x = one(NOON, 0, 0);
                x.sheet(3, sort, n);
                is(1, x.shelf(3, 1, 3));
                for (int as = 10; as < 15; as++) is(as - 10 == sort ? n : OTHER, x.taken(3, as));
                for (int as = 0; as < 6; as++) is(OTHER, x.taken(3, as));
                x.sheet(3, (sort + 1) % 5, 7);
                is(n, x.taken(3, 10 + sort));
                x.sheet(3, -1, 0);
                is(n, x.taken(3, 10 + sort));
                is(1, x.shelf(3, 1, 3));
                is(NOTHING, x.taken(3, 10 + sort));
            }
        }
    }

    private static void shelfOfDial() {
        says("hold a DIAL (by its number; nothing, if there is no such one at the time), a SHEET's row, or nothing (at first).");
        Run x = noons(5);
        x.keep();
        x.dial(SLIT, 0, 0, 0);
        for (int shelf = 0; shelf < 4; shelf++) x.shelf(shelf, 0, 5 - shelf);
        for (int shelf = 0; shelf < 4; shelf++) is(5 - shelf, x.taken(shelf, 0));
        is(5, x.taken(0, 5));
        x.again();
        for (int as : new int[] {0, 1, 5, 10, 14}) refuses(x, NOTHING, () -> x.taken(0, as));
        for (int as : new int[] {6, 15}) refuses(x, BAD, () -> x.taken(0, as));
        is(0, x.act(0, 0, 1));
        is(0, x.many(6));
        is(4, x.taken(1, 0));
        x.dial(GUILD, 0, 0, 0);
        is(5, x.taken(0, 2));
        is(5, x.taken(0, 3));
        is(OTHER, x.taken(0, 5));
        x.remake(5, LOW);
        is(OTHER, x.taken(0, 2));
        is(5, x.taken(0, 4));
    }

    private static void takenAs() {
        says("What a SHELF holds taken for a thing of KIND as (0 to 5, or one under it): its number; for a row of sort as - 10 (as 10 to 14): how many items. BAD: no such SHELF, as; -13; -11.");
        for (int kind : KINDS) {
            Run x = one(kind, 0, 0);
            x.sheet(0, 2, 9);
            x.shelf(0, 0, 0);
            x.shelf(1, 1, 0);
            for (int as : new int[] {0, 5, 10, 14}) takes(x, 0, 3, shelf -> x.taken(shelf, as));
            for (int shelf = 0; shelf < 4; shelf++) {
                int s = shelf;
                for (int as : new int[] {-1, 6, 7, 8, 9, 15, FAR[0], FAR[1]}) refuses(x, BAD, () -> x.taken(s, as));
                for (int as = 0; as < 15; as++) {
                    int a = as;
                    boolean above = as == 0 || as == kind || as == 2 && kind == GUILD || as == 4 && kind == SLIT;
                    if (as > 5 && as < 10) continue;
                    int[] due = {above ? 0 : OTHER, as == 12 ? 9 : OTHER, NOTHING, NOTHING};
                    asks(x, due[shelf], () -> x.taken(s, a));
                }
            }
            for (int shelf : new int[] {-1, 4}) refuses(x, BAD, () -> x.taken(shelf, 9));
        }
    }

    private static int points(int kind, int n, int x) {
        if (kind == NOON) return (int) (4L * x - n + 12);
        return (int) (kind == GUILD ? 4 * (x - 3L) - n : 4L * x - n);
    }

    private static int slants(int kind, int n, int a, int x) {
        int plain = (int) (points(kind, n, x) + 5L * a);
        if (kind == TALL || kind == GUILD) return plain ^ 9;
        return kind == SLIT ? (int) -(long) plain : plain;
    }

    private static int shares(int kind, int n, int a, int x) {
        long rest = Math.abs((long) x) % Math.abs(a - n + 2);
        if (x < 0) rest = -rest;
        if (kind == LOW) return (int) (2 * rest);
        return (int) (kind == SLIT ? 2 * rest + points(kind, n, n) : rest);
    }

    private static int tells(int kind, int n, int a, int x) {
        int both = slants(kind, n, a, x) ^ shares(kind, n, a, x);
        return kind == GUILD ? (int) ((long) both - slants(kind, n, a, a)) : both;
    }

    private static void actsThatWrap() {
        says("ACTS of a thing by its KIND, with a number x (ints that wrap): 0 points, 1 slants, 2 shares, 3 tells.");
        for (int kind : KINDS) {
            for (int n = 0; n < 6; n++) {
                for (int a = 0; a < 6; a++) actsOf(kind, n, a);
            }
        }
    }

    private static void actsOf(int kind, int n, int a) {
        Run x = noons(6);
        x.remake(n, kind);
        x.change(n, SPOT, a);
        x.shelf(0, 0, n);
        for (int v : XS) {
            is(points(kind, n, v), x.act(0, 0, v));
            is(slants(kind, n, a, v), x.act(0, 1, v));
            boolean parts = a - n + 2 != 0;
            is(parts ? shares(kind, n, a, v) : PARTED, x.act(0, 2, v));
            is(parts ? tells(kind, n, a, v) : PARTED, x.act(0, 3, v));
        }
    }

    private static void actsAtTheEnds() {
        says("10 points: x * 4 - n. 11 slants: points(x) + 5 * a.");
        int[][] kindActEndsDue = {
            {NOON, 0, 12, 8}, {NOON, 1, 12, 8}, {NOON, 2, 0, 1}, {TALL, 0, 0, -4}, {TALL, 1, 9, -11}, {GUILD, 0, -12, -16},
            {GUILD, 1, -3, -7}, {LOW, 2, 0, 2}, {LOW, 0, 0, -4}, {SLIT, 1, 0, 4}, {SLIT, 2, 0, 2}, {SLIT, 3, 0, 6}};
        for (int[] k : kindActEndsDue) {
            Run x = one(k[0], 0, 0);
            x.shelf(0, 0, 0);
            is(k[2], x.act(0, k[1], FAR[0]));
            is(k[3], x.act(0, k[1], FAR[1]));
        }
        Run y = one(SLIT, 0, 0);
        y.shelf(0, 0, 0);
        is(FAR[0], y.act(0, 1, FAR[0] / 4));
        is(FAR[0], y.act(0, 0, FAR[0] / 4));
        Run z = noons(5);
        z.change(4, SPOT, 1);
        z.shelf(0, 0, 4);
        is(0, z.act(0, 2, FAR[0]));
        is(0, z.act(0, 2, FAR[1]));
        z.change(4, SPOT, 3);
        is(0, z.act(0, 2, FAR[0]));
        z.change(4, SPOT, 0);
        is(0, z.act(0, 2, FAR[0]));
        is(1, z.act(0, 2, FAR[1]));
        is(-1, z.act(0, 2, FAR[0] + 1));
    }

    private static void parted() {
        says("12 shares: what x leaves by (a - n + 2), below 0 if x is (-15 if that is 0; that is all that act() answers then).");
        int[][] asShares = {{12}, {12}, {12}, {40, 12}, {61, 40, 12}};
        int[][] asTells = {
            {13, 11, 20, 10, 12}, {13, 30, 11, 10, 12}, {51, 13, 30, 11, 50, 10, 12}, {13, 11, 10, 40, 12}, {13, 60, 11, 10, 61, 40, 12}};
        for (int i = 0; i < 5; i++) {
            for (int n = 2; n < 6; n++) {
                Run x = noons(6);
                x.remake(n, KINDS[i]);
                x.change(n, SPOT, n - 2);
                x.shelf(2, 0, n);
                for (int v : new int[] {0, 9, FAR[0], FAR[1]}) {
                    is(PARTED, x.act(2, 2, v));
                    began(x, asShares[i]);
                    is(PARTED, x.act(2, 3, v));
                    began(x, asTells[i]);
                    is(points(KINDS[i], n, v), x.act(2, 0, v));
                    is(slants(KINDS[i], n, n - 2, v), x.act(2, 1, v));
                }
            }
        }
    }

    private static void began(Run x, int[] bodies) {
        is(bodies.length, x.many(6));
        for (int b = 0; b < bodies.length; b++) is(bodies[b], x.trace(b));
        is(NONE, x.trace(bodies.length));
    }

    /** But that THE TRACE is of the latest act(). */
    private static void partedChangesNothing() {
        says("-15 parted by 0");
        for (int kind : KINDS) {
            for (int act = 2; act < 4; act++) {
                Run x = full(), y = full();
                for (Run r : new Run[] {x, y}) {
                    r.remake(2, kind);
                    r.change(2, SPOT, 0);
                    r.shelf(2, 0, 2);
                }
                is(PARTED, x.act(2, act, 5));
                for (Run r : new Run[] {x, y}) r.act(3, 0, 0);
                is(0, x.many(6));
                holds(x.all().equals(y.all()));
            }
        }
    }

    private static void noAct() {
        says("An ACT (0 to 3) of the thing on a SHELF, with x. 0, and no TRACE then: no such SHELF, act, nothing, a row.");
        Run x = one(NOON, 0, 0);
        x.sheet(0, 0, 3);
        x.shelf(0, 0, 0);
        x.shelf(1, 1, 0);
        x.shelf(3, 0, 0);
        int[][] none = {
            {-1, 0}, {4, 0}, {FAR[0], 3}, {FAR[1], 3}, {0, -1}, {0, 4}, {3, FAR[0]}, {3, FAR[1]}, {1, 0}, {1, 3}, {2, 0}, {2, 3}};
        for (int[] n : none) {
            is(16, x.act(0, 0, 1));
            is(2, x.many(6));
            is(0, x.act(n[0], n[1], 1));
            is(0, x.many(6));
            is(NONE, x.trace(0));
        }
        for (int shelf : new int[] {0, 3}) {
            int[] due = {16, 16, 1, 17};
            for (int act = 0; act < 4; act++) is(due[act], x.act(shelf, act, 1));
        }
        Run y = new Run();
        is(0, y.act(0, 0, 1));
    }

    private static void traces() {
        says("THE TRACE: numbers of the bodies that ran in the latest act(), as they began (left first)");
        int[][][] due = {
            {{20, 10}, {11, 20, 10}, {12}, {13, 11, 20, 10, 12}},
            {{10}, {30, 11, 10}, {12}, {13, 30, 11, 10, 12}},
            {{50, 10}, {30, 11, 50, 10}, {12}, {51, 13, 30, 11, 50, 10, 12, 30, 11, 50, 10}},
            {{10}, {11, 10}, {40, 12}, {13, 11, 10, 40, 12}},
            {{10}, {60, 11, 10}, {61, 40, 12, 10}, {13, 60, 11, 10, 61, 40, 12, 10}}};
        for (int i = 0; i < 5; i++) {
            for (int act = 0; act < 4; act++) {
                Run x = one(KINDS[i], 0, 0);
                x.shelf(0, 0, 0);
                x.act(0, 3, 4);
                x.act(0, act, 7);
                began(x, due[i][act]);
                takes(x, 0, due[i][act].length - 1, NONE, NONE, x::trace);
            }
        }
    }

    private static void traceBounds() {
        says("THE TRACE's i-th body. NONE.");
        Run none = new Run();
        for (int i : new int[] {0, -1, 1, 29, 30, FAR[0], FAR[1]}) refuses(none, NONE, () -> none.trace(i));
        Run x = full();
        is(11, x.many(6));
        takes(x, 0, 10, NONE, NONE, x::trace);
        for (int i : new int[] {11, 29, 30, 31}) refuses(x, NONE, () -> x.trace(i));
        asks(x, 10, () -> x.trace(10));
        x.act(0, 0, 1);
        is(10, x.trace(1));
        refuses(x, NONE, () -> x.trace(2));
    }

    private static void many() {
        says("How many: what = 0 DIALS, 1 RULES, 2 those RIGHT, 3 REPORTS, 4 ROWS, 5 bytes of THE TAPE, 6 bodies of THE TRACE (those kept, 30 at most). BAD: another what.");
        for (Run x : new Run[] {new Run(), full(), over(full())}) {
            takes(x, 0, 6, x::many);
            for (int what = 0; what < 7; what++) {
                int w = what;
                asks(x, x.many(w), () -> x.many(w));
            }
        }
        Run y = ruled(noons(6), "low set;".repeat(8));
        for (int k = 0; k < 6; k++) {
            is(k, y.many(2));
            y.change(k, RIGHT, 1);
            is(k, y.many(3));
            y.report(0, 0, 0, 0);
        }
        y.prove(4);
        tape(y, " ".repeat(200));
        y.remake(5, GUILD);
        y.change(5, SPOT, 5);
        y.shelf(0, 0, 5);
        y.act(0, 3, 1);
        int[] due = {6, 8, 6, 6, 4, 200, 11};
        for (int what = 0; what < 7; what++) is(due[what], y.many(what));
    }

    private static void keeps() {
        says("All but THE TAPE, ROWS, SHEETS, SHELVES, THE TRACE is kept: 1.");
        for (Run x : new Run[] {new Run(), full(), over(full()), noons(6)}) {
            String before = x.seen();
            is(1, x.keep());
            holds(before.equals(x.seen()));
            is(1, x.keep());
            asks(x, x.many(0), x::again);
        }
    }

    private static void keptLatest() {
        says("It becomes what was kept latest (which stays): how many DIALS. NONE: nothing is kept.");
        for (Run x : new Run[] {new Run(), square(), over(square()), noons(6)}) refuses(x, NONE, x::again);
        Run y = new Run();
        y.keep();
        for (int k = 0; k < 6; k++) y.dial(SLIT, 99, 9, 5);
        for (int c = 0; c < 16; c++) y.sky(c, 15);
        for (int f = 0; f < 6; f++) for (int w = 0; w < 2; w++) y.spot(f, w, 9);
        for (int r = 0; r < 6; r++) y.report(15, 1, 99, 99);
        told(y, "low keep;".repeat(8));
        y.ends(16);
        y.seed(FAR[0]);
        y.chime();
        for (int again = 0; again < 2; again++) {
            is(0, y.again());
            holds(new Run().seen().equals(y.seen()));
        }
        Run z = full();
        for (int time = 0; time < 3; time++) {
            z.dial(NOON, time, 0, 0);
            z.keep();
            String kept = z.seen();
            z.anew();
            z.change(0, LAG, 70 + time);
            for (int again = 0; again < 2; again++) {
                is(Math.min(6, 6 + time), z.again());
                holds(kept.equals(z.seen()));
                z.seed(again);
                z.sky(15, 15);
            }
        }
    }
}
