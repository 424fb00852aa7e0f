/** The boundaries of promises 37 to 46: bodies and their acts, shelves with hives and rows, counts. */
public final class BoundaryShelvesTest extends Boundary {
    private static final int[] NO_SHELVES = {-1, 6, LEAST, MOST};

    private BoundaryShelvesTest() {
    }

    public static void main(String[] args) throws IllegalAccessException {
        runAll(BoundaryShelvesTest.class, 37, 46);
    }

    private static BeesBooks bodies(int kind, int number) {
        BeesBooks x = new BeesBooks();
        for (int i = 0; i <= number; i++) {
            x.body(kind);
        }
        return x;
    }

    // ---- promise 37: body

    static void promise37_kind0And7() {
        BeesBooks x = new BeesBooks();
        is("body(0)", x.body(0), 0);
        is("body(7)", x.body(7), 1);
        x.keep(0, 0);
        x.keep(1, 1);
        is("taken(0, 0)", x.taken(0, 0), 0);
        is("taken(1, 0)", x.taken(1, 0), 7);
    }

    static void promise37_kindBelow0IsBad() {
        refused(x -> x.body(-1), BAD);
        refused(x -> x.body(LEAST), BAD);
    }

    static void promise37_kind8IsBad() {
        refused(x -> x.body(8), BAD);
        refused(x -> x.body(MOST), BAD);
    }

    static void promise37_the50th() {
        BeesBooks x = bodies(1, 48);
        is("count(5)", x.count(5), 49);
        is("body(6)", x.body(6), 49);
        is("count(5)", x.count(5), 50);
        is("act(49, 0, 0)", x.act(49, 0, 0), 98);
    }

    static void promise37_the51stIsFull() {
        refused(() -> bodies(1, 49), x -> x.body(0), FULL);
        refused(() -> bodies(1, 49), x -> x.body(7), FULL);
    }

    static void promise37_badAheadOfFull() {
        refused(() -> bodies(1, 49), x -> x.body(8), BAD);
        refused(() -> bodies(1, 49), x -> x.body(-1), BAD);
    }

    // ---- promise 38: act

    private static void noAct(int body, int act) {
        BeesBooks x = Scenes.busy();
        is("count(6) before", x.count(6), 14);
        is("act(" + body + ", " + act + ", 5)", x.act(body, act, 5), 0);
        is("count(6)", x.count(6), 0);
        is("trace(0)", x.trace(0), BAD);
    }

    static void promise38_noSuchHive() {
        noAct(-1, 0);
        noAct(3, 0);
        noAct(50, 0);
        noAct(LEAST, 0);
        noAct(MOST, 0);
        is("act(0, 0, 5) of none", new BeesBooks().act(0, 0, 5), 0);
    }

    static void promise38_noSuchAct() {
        noAct(0, -1);
        noAct(0, 4);
        noAct(2, LEAST);
        noAct(2, MOST);
    }

    static void promise38_act0And3() {
        BeesBooks x = bodies(0, 3);
        is("act(3, 0, 10)", x.act(3, 0, 10), 13);
        is("act(3, 1, 10)", x.act(3, 1, 10), 26);
        is("act(3, 2, 10)", x.act(3, 2, 10), 9);
        is("act(3, 3, 10)", x.act(3, 3, 10), 24);
    }

    static void promise38_body0And49() {
        is("act(0, 0, 10)", bodies(0, 0).act(0, 0, 10), 10);
        is("act(49, 0, 10)", bodies(0, 49).act(49, 0, 10), 59);
        is("act(49, 2, 10)", bodies(0, 49).act(49, 2, 10), 10 ^ 49);
    }

    private static int above(int kind) {
        return new int[] {-1, 0, 0, 2, 1, 3, 0, 4}[kind];
    }

    /** The document's bodies written out once more, each looked for in the text from a kind upwards. */
    private static int due(int self, int from, int act, int x, int n) {
        int own = from;
        while (!hasOwn(own, act)) {
            own = above(own);
        }
        int up = above(own);
        switch (10 * own + act) {
            case 0:
                return x + n;
            case 1:
                return due(self, self, 0, x, n) * 2;
            case 2:
                return x ^ n;
            case 3:
                return due(self, self, 1, x, n) - due(self, self, 2, 1, n);
            case 10:
                return due(self, up, 0, x, n) + 3;
            case 21:
                return -due(self, up, 1, x, n);
            case 32:
                return due(self, up, 2, x, n) * 3;
            case 31:
                return due(self, up, 1, x + 1, n);
            case 42:
                return due(self, up, 2, x, n) - due(self, self, 0, 2, n);
            case 53:
                return due(self, up, 3, x, n) ^ 5;
            case 60:
                return due(self, up, 0, x, n) * 2;
            case 71:
                return due(self, up, 1, x, n) + due(self, self, 2, 2, n);
            default:
                return due(self, up, 3, x, n) - 1;
        }
    }

    private static boolean hasOwn(int kind, int act) {
        String owned = " 00 01 02 03 10 21 32 31 42 53 60 71 73 ";
        return owned.contains(" " + kind + act + " ");
    }

    static void promise38_xWraps() {
        for (int kind = 0; kind <= 7; kind++) {
            for (int act = 0; act <= 3; act++) {
                for (int v : new int[] {0, 1, -1, MOST, MOST - 1, LEAST, LEAST + 1, 1 << 30, -(1 << 30), 1 << 29}) {
                    String call = "act(9, " + act + ", " + v + ") of kind " + kind;
                    is(call, bodies(kind, 9).act(9, act, v), due(kind, kind, act, v, 9));
                }
            }
        }
    }

    static void promise38_xWrapsBeyondTheGreatestInt() {
        is("act(1, 0, most)", bodies(0, 1).act(1, 0, MOST), LEAST);
        is("act(0, 1, 1 << 30)", bodies(0, 0).act(0, 1, 1 << 30), LEAST);
        is("act(0, 1, least)", bodies(0, 0).act(0, 1, LEAST), 0);
        is("act(0, 1, 1 << 30) of SWARM", bodies(2, 0).act(0, 1, 1 << 30), LEAST);
        is("act(0, 1, most) of DOUBLE", bodies(3, 0).act(0, 1, MOST), 0);
    }

    static void promise38_changesNothingButTheTrace() {
        BeesBooks x = Scenes.busy();
        x.act(1, 3, 8);
        is("count(5)", x.count(5), 3);
        is("count(4)", x.count(4), 2);
        is("taken(1, 3)", x.taken(1, 3), 3);
    }

    // ---- promise 39: trace

    static void promise39_noneYet() {
        refused(BeesBooks::new, x -> x.trace(0), BAD);
        refused(() -> bodies(7, 1), x -> x.trace(0), BAD);
    }

    static void promise39_theFirstAndTheLast() {
        BeesBooks x = bodies(7, 0);
        x.act(0, 3, 1);
        int[] ran = {81, 2, 80, 10, 20, 1, 50, 11, 20, 1, 50, 11, 20, 1};
        for (int i = 0; i < ran.length; i++) {
            is("trace(" + i + ")", x.trace(i), ran[i]);
        }
        is("count(6)", x.count(6), 14);
    }

    static void promise39_behindTheLastIsBad() {
        refused(x -> x.trace(14), BAD);
        refused(x -> x.trace(23), BAD);
        refused(x -> x.trace(24), BAD);
        refused(x -> x.trace(MOST), BAD);
    }

    static void promise39_below0IsBad() {
        refused(x -> x.trace(-1), BAD);
        refused(x -> x.trace(LEAST), BAD);
    }

    static void promise39_ofTheLatestActAlone() {
        BeesBooks x = bodies(7, 0);
        x.act(0, 3, 1);
        x.act(0, 0, 1);
        is("trace(0)", x.trace(0), 20);
        is("trace(1)", x.trace(1), 1);
        is("trace(2)", x.trace(2), BAD);
        is("count(6)", x.count(6), 2);
    }

    static void promise39_oneBody() {
        BeesBooks x = bodies(0, 0);
        x.act(0, 2, 1);
        is("trace(0)", x.trace(0), 11);
        is("trace(1)", x.trace(1), BAD);
    }

    private static void traceIs(int kind, int act, int... ran) {
        BeesBooks x = bodies(kind, 1);
        x.act(1, act, 6);
        for (int i = 0; i < ran.length; i++) {
            is("trace(" + i + ") of act " + act + " of kind " + kind, x.trace(i), ran[i]);
        }
        is("behind act " + act + " of kind " + kind, x.trace(ran.length), BAD);
    }

    static void promise39_asTheyBegan() {
        traceIs(0, 3, 2, 10, 1, 11);
        traceIs(1, 1, 10, 20, 1);
        traceIs(2, 3, 2, 30, 10, 1, 11);
        traceIs(3, 1, 41, 30, 10, 1);
        traceIs(3, 2, 40, 11);
        traceIs(4, 2, 50, 11, 20, 1);
        traceIs(5, 3, 60, 2, 41, 30, 10, 1, 40, 11);
        traceIs(6, 1, 10, 70, 1);
        traceIs(7, 1, 80, 10, 20, 1, 50, 11, 20, 1);
    }

    // ---- promise 40: keep

    static void promise40_noSuchShelfIsBad() {
        for (int shelf : NO_SHELVES) {
            refused(x -> x.keep(shelf, 0), BAD);
            refused(x -> x.keep(shelf, -1), BAD);
        }
    }

    static void promise40_theFirstAndTheLastShelf() {
        BeesBooks x = bodies(4, 1);
        is("keep(0, 0)", x.keep(0, 0), 1);
        is("keep(5, 1)", x.keep(5, 1), 1);
        is("taken(0, 4)", x.taken(0, 4), 4);
        is("taken(5, 4)", x.taken(5, 4), 4);
        is("taken(1, 4)", x.taken(1, 4), NOTHING);
    }

    static void promise40_bodyMinus1IsNothing() {
        BeesBooks x = Scenes.busy();
        for (int shelf = 0; shelf <= 5; shelf++) {
            is("keep(" + shelf + ", -1)", x.keep(shelf, -1), 1);
            is("taken(" + shelf + ", 0)", x.taken(shelf, 0), NOTHING);
            is("put(" + shelf + ", 0, 0)", x.put(shelf, 0, 0), NOTHING);
        }
    }

    static void promise40_noSuchBodyIsBad() {
        for (int body : new int[] {-2, 3, 50, LEAST, MOST}) {
            for (int shelf = 0; shelf <= 2; shelf++) {
                int one = shelf;
                refused(x -> x.keep(one, body), BAD);
            }
        }
    }

    static void promise40_body49() {
        BeesBooks x = bodies(5, 49);
        is("keep(0, 49)", x.keep(0, 49), 1);
        is("keep(0, 50)", x.keep(0, 50), BAD);
        is("taken(0, 5)", x.taken(0, 5), 5);
    }

    static void promise40_aHiveInARowsPlace() {
        BeesBooks x = Scenes.busy();
        is("keep(2, 1)", x.keep(2, 1), 1);
        is("taken(2, 0)", x.taken(2, 0), 3);
        is("put(2, 0, 1)", x.put(2, 0, 1), KIND);
        is("element(2, 0)", x.element(2, 0), BAD_LONG);
        is("sales(2, -1)", x.sales(2, -1), KIND);
    }

    static void promise40_onTwoShelves() {
        BeesBooks x = bodies(5, 0);
        x.keep(0, 0);
        x.keep(1, 0);
        x.keep(0, -1);
        is("taken(1, 5)", x.taken(1, 5), 5);
    }

    // ---- promise 41: row

    static void promise41_noSuchShelfIsBad() {
        for (int shelf : NO_SHELVES) {
            refused(x -> x.row(shelf, 0, 3), BAD);
        }
    }

    static void promise41_theFirstAndTheLastShelf() {
        BeesBooks x = new BeesBooks();
        is("row(0, 0, 1)", x.row(0, BYTES, 1), 1);
        is("row(5, 4, 1)", x.row(5, BOOLEANS, 1), 1);
        is("element(0, 0)", x.element(0, 0), 0);
        is("element(5, 0)", x.element(5, 0), 0);
    }

    static void promise41_sortBelow0IsBad() {
        refused(x -> x.row(2, -1, 3), BAD);
        refused(x -> x.row(2, LEAST, 3), BAD);
    }

    static void promise41_sort5IsBad() {
        refused(x -> x.row(2, 5, 3), BAD);
        refused(x -> x.row(2, MOST, 3), BAD);
    }

    static void promise41_n0() {
        for (int sort = BYTES; sort <= BOOLEANS; sort++) {
            BeesBooks x = Scenes.busy();
            is("row(2, " + sort + ", 0)", x.row(2, sort, 0), 1);
            is("element(2, 0)", x.element(2, 0), BAD_LONG);
            is("put(2, 0, 1)", x.put(2, 0, 1), PLACE);
        }
    }

    static void promise41_n60() {
        for (int sort = BYTES; sort <= BOOLEANS; sort++) {
            BeesBooks x = new BeesBooks();
            is("row(0, " + sort + ", 60)", x.row(0, sort, 60), 1);
            is("put(0, 59, 1)", x.put(0, 59, 1), 1);
            is("element(0, 59)", x.element(0, 59), 1);
            is("put(0, 60, 1)", x.put(0, 60, 1), PLACE);
        }
    }

    static void promise41_n61IsBad() {
        for (int sort = BYTES; sort <= BOOLEANS; sort++) {
            int one = sort;
            refused(x -> x.row(2, one, 61), BAD);
            refused(x -> x.row(2, one, MOST), BAD);
        }
    }

    static void promise41_aSizeBelow0() {
        for (int sort = BYTES; sort <= BOOLEANS; sort++) {
            int one = sort;
            refused(x -> x.row(2, one, -1), SIZE);
            refused(x -> x.row(2, one, LEAST), SIZE);
        }
    }

    static void promise41_badAheadOfASizeBelow0() {
        refused(x -> x.row(2, 5, -1), BAD);
        refused(x -> x.row(2, -1, -1), BAD);
        refused(x -> x.row(6, 0, -1), BAD);
        refused(x -> x.row(-1, 0, -1), BAD);
    }

    static void promise41_all0AtFirst() {
        for (int sort = BYTES; sort <= BOOLEANS; sort++) {
            BeesBooks x = new BeesBooks();
            x.row(0, LONGS, 60);
            for (int i = 0; i < 60; i++) {
                x.put(0, i, -1);
            }
            x.row(0, sort, 60);
            for (int i = 0; i < 60; i++) {
                is("element(0, " + i + ") of sort " + sort, x.element(0, i), 0);
            }
        }
    }

    static void promise41_aRowInAHivesPlace() {
        BeesBooks x = Scenes.busy();
        is("row(1, 0, 2)", x.row(1, BYTES, 2), 1);
        is("taken(1, 3)", x.taken(1, 3), KIND);
        is("element(1, 1)", x.element(1, 1), 0);
        is("element(1, 2)", x.element(1, 2), BAD_LONG);
    }

    // ---- promise 42: put

    static void promise42_noSuchShelfIsBad() {
        for (int shelf : NO_SHELVES) {
            refused(x -> x.put(shelf, 0, 1), BAD);
        }
    }

    static void promise42_nothingThere() {
        refused(x -> x.put(0, 0, 1), NOTHING);
        refused(x -> x.put(0, -1, 1), NOTHING);
        refused(x -> x.put(0, 60, 1), NOTHING);
    }

    static void promise42_noRow() {
        refused(x -> x.put(1, 0, 1), KIND);
        refused(x -> x.put(1, -1, 1), KIND);
        refused(x -> x.put(1, 60, 1), KIND);
    }

    static void promise42_aPlaceBelow0() {
        refused(x -> x.put(2, -1, 1), PLACE);
        refused(x -> x.put(2, LEAST, 1), PLACE);
    }

    static void promise42_aPlaceBehindTheLast() {
        refused(x -> x.put(2, 6, 1), PLACE);
        refused(x -> x.put(2, 60, 1), PLACE);
        refused(x -> x.put(2, MOST, 1), PLACE);
    }

    static void promise42_theFirstAndTheLastPlace() {
        BeesBooks x = Scenes.busy();
        is("put(2, 0, 7)", x.put(2, 0, 7), 1);
        is("put(2, 5, 8)", x.put(2, 5, 8), 1);
        is("element(2, 0)", x.element(2, 0), 7);
        is("element(2, 5)", x.element(2, 5), 8);
        is("element(2, 1)", x.element(2, 1), 1);
    }

    private static void kept(int sort, long v, long want) {
        BeesBooks x = new BeesBooks();
        x.row(0, sort, 3);
        is("put(0, 1, " + v + ") of sort " + sort, x.put(0, 1, v), 1);
        is("element of " + v + " of sort " + sort, x.element(0, 1), want);
        is("element ahead of it", x.element(0, 0), 0);
        is("element behind it", x.element(0, 2), 0);
    }

    static void promise42_aBytesLowestBits() {
        kept(BYTES, 127, 127);
        kept(BYTES, 128, -128);
        kept(BYTES, 255, -1);
        kept(BYTES, 256, 0);
        kept(BYTES, -128, -128);
        kept(BYTES, -129, 127);
        kept(BYTES, Long.MIN_VALUE, 0);
        kept(BYTES, Long.MAX_VALUE, -1);
    }

    static void promise42_aShortsLowestBits() {
        kept(SHORTS, 32767, 32767);
        kept(SHORTS, 32768, -32768);
        kept(SHORTS, 65535, -1);
        kept(SHORTS, 65536, 0);
        kept(SHORTS, -32768, -32768);
        kept(SHORTS, -32769, 32767);
        kept(SHORTS, Long.MIN_VALUE, 0);
    }

    static void promise42_anIntsLowestBits() {
        kept(INTS, MOST, MOST);
        kept(INTS, 1L << 31, LEAST);
        kept(INTS, (1L << 32) - 1, -1);
        kept(INTS, 1L << 32, 0);
        kept(INTS, LEAST, LEAST);
        kept(INTS, LEAST - 1L, MOST);
        kept(INTS, Long.MIN_VALUE, 0);
    }

    static void promise42_aLong() {
        kept(LONGS, Long.MAX_VALUE, Long.MAX_VALUE);
        kept(LONGS, Long.MIN_VALUE, Long.MIN_VALUE);
        kept(LONGS, 1L << 32, 1L << 32);
        kept(LONGS, -1, -1);
        kept(LONGS, 0, 0);
    }

    static void promise42_aBooleanIsWhetherItIsNot0() {
        kept(BOOLEANS, 0, 0);
        kept(BOOLEANS, 1, 1);
        kept(BOOLEANS, 2, 1);
        kept(BOOLEANS, -1, 1);
        kept(BOOLEANS, 256, 1);
        kept(BOOLEANS, 1L << 32, 1);
        kept(BOOLEANS, Long.MIN_VALUE, 1);
    }

    static void promise42_aBooleanMayBecome0Again() {
        BeesBooks x = Scenes.busy();
        is("element(5, 0)", x.element(5, 0), 1);
        x.put(5, 0, 0);
        is("element(5, 0)", x.element(5, 0), 0);
    }

    // ---- promise 43: element

    static void promise43_noSuchShelfIsBad() {
        for (int shelf : NO_SHELVES) {
            refused(x -> x.element(shelf, 0), BAD_LONG);
        }
    }

    static void promise43_nothingThere() {
        refused(x -> x.element(0, 0), BAD_LONG);
    }

    static void promise43_noRow() {
        refused(x -> x.element(1, 0), BAD_LONG);
    }

    static void promise43_aPlaceThatIsNotThere() {
        for (int i : new int[] {-1, 6, 60, LEAST, MOST}) {
            refused(x -> x.element(2, i), BAD_LONG);
        }
    }

    static void promise43_theFirstAndTheLastPlace() {
        BeesBooks x = Scenes.busy();
        is("element(2, 0)", x.element(2, 0), 0);
        is("element(2, 1)", x.element(2, 1), 1);
        is("element(2, 5)", x.element(2, 5), 3);
        is("element(3, 1)", x.element(3, 1), -5);
    }

    static void promise43_behindAShorterRow() {
        BeesBooks x = new BeesBooks();
        x.row(0, LONGS, 60);
        x.row(0, LONGS, 3);
        is("element(0, 2)", x.element(0, 2), 0);
        is("element(0, 3)", x.element(0, 3), BAD_LONG);
    }

    // ---- promise 44: shift

    /** Shelf 0 holds 1 .. 5, shelf 1 9 9 9, shelf 2 nothing, 3 a hive, 4 shorts, 5 no byte. */
    private static BeesBooks rows() {
        BeesBooks x = new BeesBooks();
        x.body(0);
        Scenes.bytes(x, 0, 1, 2, 3, 4, 5);
        Scenes.bytes(x, 1, 9, 9, 9);
        x.keep(3, 0);
        Scenes.fill(x, 4, SHORTS, 6, 7, 8);
        Scenes.bytes(x, 5);
        return x;
    }

    private static void shifted(int i, int other, int j, int n, int... want) {
        BeesBooks x = rows();
        String call = "shift(0, " + i + ", " + other + ", " + j + ", " + n + ")";
        is(call, x.shift(0, i, other, j, n), n);
        for (int k = 0; k < want.length; k++) {
            is("element(" + other + ", " + k + ") behind " + call, x.element(other, k), want[k]);
        }
        is("its end", x.element(other, want.length), BAD_LONG);
    }

    static void promise44_noSuchShelfIsBad() {
        for (int shelf : NO_SHELVES) {
            refused(x -> x.shift(shelf, 0, 2, 0, 1), BAD);
            refused(x -> x.shift(2, 0, shelf, 0, 1), BAD);
            refused(x -> x.shift(shelf, 0, shelf, 0, 1), BAD);
        }
    }

    static void promise44_badAheadOfNothing() {
        refused(BoundaryShelvesTest::rows, x -> x.shift(2, 0, 6, 0, 1), BAD);
        refused(BoundaryShelvesTest::rows, x -> x.shift(6, 0, 2, 0, 1), BAD);
    }

    static void promise44_nothingOnEither() {
        refused(BoundaryShelvesTest::rows, x -> x.shift(2, 0, 0, 0, 1), NOTHING);
        refused(BoundaryShelvesTest::rows, x -> x.shift(0, 0, 2, 0, 1), NOTHING);
        refused(BoundaryShelvesTest::rows, x -> x.shift(2, 0, 2, 0, 1), NOTHING);
    }

    static void promise44_nothingAheadOfKind() {
        refused(BoundaryShelvesTest::rows, x -> x.shift(2, 0, 3, 0, 1), NOTHING);
        refused(BoundaryShelvesTest::rows, x -> x.shift(3, 0, 2, 0, 1), NOTHING);
    }

    static void promise44_noRowOnEither() {
        refused(BoundaryShelvesTest::rows, x -> x.shift(3, 0, 0, 0, 1), KIND);
        refused(BoundaryShelvesTest::rows, x -> x.shift(0, 0, 3, 0, 1), KIND);
        refused(BoundaryShelvesTest::rows, x -> x.shift(3, 0, 3, 0, 1), KIND);
        refused(BoundaryShelvesTest::rows, x -> x.shift(3, 0, 3, 0, 0), KIND);
    }

    static void promise44_unlikeSorts() {
        for (int one = BYTES; one <= BOOLEANS; one++) {
            for (int other = BYTES; other <= BOOLEANS; other++) {
                BeesBooks x = new BeesBooks();
                x.row(0, one, 2);
                x.row(1, other, 2);
                is("shift of sorts " + one + " and " + other, x.shift(0, 0, 1, 0, 2), one == other ? 2 : KIND);
            }
        }
        refused(BoundaryShelvesTest::rows, x -> x.shift(0, 0, 4, 0, 1), KIND);
    }

    static void promise44_kindAheadOfPlaces() {
        refused(BoundaryShelvesTest::rows, x -> x.shift(0, 9, 4, 9, 9), KIND);
        refused(BoundaryShelvesTest::rows, x -> x.shift(0, -1, 3, -1, -1), KIND);
    }

    static void promise44_placesBelow0() {
        refused(BoundaryShelvesTest::rows, x -> x.shift(0, -1, 1, 0, 1), PLACE);
        refused(BoundaryShelvesTest::rows, x -> x.shift(0, 0, 1, -1, 1), PLACE);
        refused(BoundaryShelvesTest::rows, x -> x.shift(0, -1, 1, 0, 0), PLACE);
        refused(BoundaryShelvesTest::rows, x -> x.shift(0, 0, 1, -1, 0), PLACE);
        refused(BoundaryShelvesTest::rows, x -> x.shift(0, LEAST, 1, 0, 1), PLACE);
        refused(BoundaryShelvesTest::rows, x -> x.shift(0, 0, 1, LEAST, 1), PLACE);
    }

    static void promise44_nBelow0() {
        refused(BoundaryShelvesTest::rows, x -> x.shift(0, 0, 1, 0, -1), PLACE);
        refused(BoundaryShelvesTest::rows, x -> x.shift(0, 2, 1, 2, -1), PLACE);
        refused(BoundaryShelvesTest::rows, x -> x.shift(0, 0, 1, 0, LEAST), PLACE);
    }

    static void promise44_oneTooManyToTake() {
        shifted(2, 1, 0, 3, 3, 4, 5);
        refused(BoundaryShelvesTest::rows, x -> x.shift(0, 3, 1, 0, 3), PLACE);
        refused(BoundaryShelvesTest::rows, x -> x.shift(0, 5, 1, 0, 1), PLACE);
        refused(BoundaryShelvesTest::rows, x -> x.shift(1, 0, 0, 0, 4), PLACE);
    }

    static void promise44_oneTooManyToLay() {
        shifted(0, 1, 1, 2, 9, 1, 2);
        refused(BoundaryShelvesTest::rows, x -> x.shift(0, 0, 1, 1, 3), PLACE);
        refused(BoundaryShelvesTest::rows, x -> x.shift(0, 0, 1, 3, 1), PLACE);
        refused(BoundaryShelvesTest::rows, x -> x.shift(0, 0, 1, 0, 4), PLACE);
        refused(BoundaryShelvesTest::rows, x -> x.shift(0, 0, 5, 0, 1), PLACE);
    }

    static void promise44_placesThatWrap() {
        refused(BoundaryShelvesTest::rows, x -> x.shift(0, MOST, 1, 0, 1), PLACE);
        refused(BoundaryShelvesTest::rows, x -> x.shift(0, 0, 1, MOST, 1), PLACE);
        refused(BoundaryShelvesTest::rows, x -> x.shift(0, 1, 1, 1, MOST), PLACE);
        refused(BoundaryShelvesTest::rows, x -> x.shift(0, MOST, 1, MOST, MOST), PLACE);
        refused(BoundaryShelvesTest::rows, x -> x.shift(0, MOST, 1, MOST, 2), PLACE);
    }

    static void promise44_n0() {
        shifted(0, 1, 0, 0, 9, 9, 9);
        shifted(5, 1, 3, 0, 9, 9, 9);
        refused(BoundaryShelvesTest::rows, x -> x.shift(0, 5, 1, 3, 0), 0);
        refused(BoundaryShelvesTest::rows, x -> x.shift(5, 0, 5, 0, 0), 0);
        refused(BoundaryShelvesTest::rows, x -> x.shift(0, 6, 1, 3, 0), PLACE);
        refused(BoundaryShelvesTest::rows, x -> x.shift(0, 5, 1, 4, 0), PLACE);
        refused(BoundaryShelvesTest::rows, x -> x.shift(5, 1, 5, 0, 0), PLACE);
    }

    static void promise44_n1() {
        shifted(4, 1, 2, 1, 9, 9, 5);
        shifted(0, 1, 0, 1, 1, 9, 9);
    }

    static void promise44_theSameRow() {
        shifted(0, 0, 0, 5, 1, 2, 3, 4, 5);
        shifted(0, 0, 1, 4, 1, 1, 2, 3, 4);
        shifted(1, 0, 0, 4, 2, 3, 4, 5, 5);
        shifted(0, 0, 2, 3, 1, 2, 1, 2, 3);
        shifted(2, 0, 0, 3, 3, 4, 5, 4, 5);
        shifted(0, 0, 4, 1, 1, 2, 3, 4, 1);
    }

    static void promise44_aWholeRowOf60() {
        BeesBooks x = new BeesBooks();
        x.row(0, LONGS, 60);
        x.row(1, LONGS, 60);
        for (int i = 0; i < 60; i++) {
            x.put(0, i, (1L << 40) + i);
        }
        is("shift(0, 0, 1, 0, 60)", x.shift(0, 0, 1, 0, 60), 60);
        is("element(1, 0)", x.element(1, 0), 1L << 40);
        is("element(1, 59)", x.element(1, 59), (1L << 40) + 59);
        is("shift(0, 0, 1, 0, 61)", x.shift(0, 0, 1, 0, 61), PLACE);
    }

    static void promise44_whatIsTakenStays() {
        BeesBooks x = rows();
        x.shift(0, 0, 1, 0, 3);
        for (int i = 0; i < 5; i++) {
            is("element(0, " + i + ")", x.element(0, i), i + 1);
        }
    }

    // ---- promise 45: taken

    static void promise45_noSuchShelfIsBad() {
        for (int shelf : NO_SHELVES) {
            refused(x -> x.taken(shelf, 0), BAD);
        }
    }

    static void promise45_kindBelow0Or8IsBad() {
        for (int kind : new int[] {-1, 8, LEAST, MOST}) {
            for (int shelf = 0; shelf <= 2; shelf++) {
                int one = shelf;
                refused(x -> x.taken(one, kind), BAD);
            }
        }
    }

    static void promise45_nothingThere() {
        refused(x -> x.taken(0, 0), NOTHING);
        refused(x -> x.taken(0, 7), NOTHING);
    }

    static void promise45_aRowIsNoHive() {
        for (int shelf = 2; shelf <= 5; shelf++) {
            int one = shelf;
            refused(x -> x.taken(one, 0), KIND);
        }
    }

    static void promise45_itsKindOrUnderIt() {
        // By kinds, those that each is or is under.
        int[][] lines = {{0}, {1, 0}, {2, 0}, {3, 2, 0}, {4, 1, 0}, {5, 3, 2, 0}, {6, 0}, {7, 4, 1, 0}};
        for (int kind = 0; kind <= 7; kind++) {
            BeesBooks x = bodies(kind, 0);
            x.keep(0, 0);
            for (int k = 0; k <= 7; k++) {
                boolean under = false;
                for (int one : lines[kind]) {
                    under |= one == k;
                }
                is("taken(0, " + k + ") of kind " + kind, x.taken(0, k), under ? kind : KIND);
            }
        }
    }

    static void promise45_itStaysThere() {
        changesNothing(x -> x.taken(1, 3));
        changesNothing(x -> x.taken(1, 7));
    }

    // ---- promise 46: count

    static void promise46_whatBelow0IsBad() {
        refused(x -> x.count(-1), BAD);
        refused(x -> x.count(LEAST), BAD);
    }

    static void promise46_what7IsBad() {
        refused(x -> x.count(7), BAD);
        refused(x -> x.count(MOST), BAD);
    }

    static void promise46_theFewest() {
        for (int what = 0; what <= 6; what++) {
            is("count(" + what + ")", new BeesBooks().count(what), 0);
        }
    }

    static void promise46_theMost() {
        is("count(0)", Scenes.byNumbers().count(0), 6);
        is("count(1)", Scenes.full(1).count(1), 49);
        is("count(2)", Scenes.full(1).count(2), 49);
        is("count(3)", BoundaryLawTest.tapeOf(120).count(3), 120);
        is("count(4)", BoundaryDeedTest.doorChanged(41).count(4), 40);
        is("count(5)", bodies(0, 49).count(5), 50);
    }

    static void promise46_sealedOnes() {
        is("of 7 cells", Scenes.first(7, 1).count(2), 0);
        is("of 8 cells: cell 0", Scenes.first(8, 1).count(2), 1);
        is("of 9 cells: 0 and 1", Scenes.first(9, 1).count(2), 2);
        is("of 48 cells: not 40, 41, 47", Scenes.first(48, 1).count(2), 45);
        is("cells that hold something", Scenes.first(48, 1).count(1), 48);
    }

    static void promise46_changesThatMayBeUndone() {
        BeesBooks x = Scenes.busy();
        is("count(4)", x.count(4), 2);
        x.redo();
        is("count(4)", x.count(4), 3);
        x.undo();
        is("count(4)", x.count(4), 2);
    }

    static void promise46_bodiesThatRan() {
        BeesBooks x = bodies(7, 0);
        is("count(6)", x.count(6), 0);
        x.act(0, 3, 1);
        is("count(6)", x.count(6), 14);
        x.act(0, 0, 1);
        is("count(6)", x.count(6), 2);
        x.act(1, 0, 1);
        is("count(6)", x.count(6), 0);
    }

    static void promise46_changesNothing() {
        for (int what = 0; what <= 6; what++) {
            int one = what;
            changesNothing(x -> x.count(one));
        }
    }
}
