/** The boundaries of promises 11 to 18: rows of sales, winter, orders, heat and swarms in thought. */
public final class BoundaryThoughtTest extends Boundary {
    private BoundaryThoughtTest() {
    }

    public static void main(String[] args) throws IllegalAccessException {
        runAll(BoundaryThoughtTest.class, 11, 18);
    }

    /** By numbers, with a row of bytes on shelf 0. */
    private static BeesBooks told(int... bytes) {
        BeesBooks x = Scenes.byNumbers();
        Scenes.bytes(x, 0, bytes);
        return x;
    }

    /** All cells but some hold 1 of account 0; a row of bytes on shelf 0. */
    private static BeesBooks scarce(int[] empty, int... bytes) {
        BeesBooks x = Scenes.full(1);
        for (int cell : empty) {
            x.fly(10 * cell);
        }
        Scenes.bytes(x, 0, bytes);
        return x;
    }

    private static int[] cells(int... cells) {
        return cells;
    }

    /** Account numbers that are none where there are three. */
    private static final int[] NO_ACCOUNTS = {-2, 3, 6, LEAST, MOST};

    // ---- promise 11: sales

    static void promise11_noRowOfBytes() {
        wantsBytes((x, shelf) -> x.sales(shelf, -1), NOTHING, KIND, BAD);
        wantsBytes((x, shelf) -> x.sales(shelf, 0), NOTHING, KIND, BAD);
    }

    static void promise11_kBelowMinus1IsBad() {
        refused(x -> x.sales(2, -2), BAD);
        refused(x -> x.sales(2, LEAST), BAD);
    }

    static void promise11_badAheadOfNothingAndKind() {
        refused(x -> x.sales(0, -2), BAD);
        refused(x -> x.sales(1, -2), BAD);
        refused(x -> x.sales(3, -2), BAD);
    }

    static void promise11_theFirstAndTheLastCell() {
        BeesBooks x = told(0, 1, 5, 6, 3, 2);
        is("sales(0, -1)", x.sales(0, -1), 3);
        is("sales(0, 0)", x.sales(0, 0), 0);
        is("sales(0, 2)", x.sales(0, 2), 2);
    }

    static void promise11_notAsMany() {
        refused(() -> told(0, 1, 5, 6, 3, 2), x -> x.sales(0, 3), NOT);
        refused(() -> told(0, 1, 5, 6, 3, 2), x -> x.sales(0, 59), NOT);
        refused(() -> told(0, 1, 5, 6, 3, 2), x -> x.sales(0, MOST), NOT);
    }

    static void promise11_notAsManyAsALongerRowBefore() {
        BeesBooks x = told(0, 1, 5, 6, 3, 2);
        is("sales(0, 2)", x.sales(0, 2), 2);
        Scenes.bytes(x, 1, 0, 1);
        is("sales(1, 0)", x.sales(1, 0), 0);
        is("sales(1, 1)", x.sales(1, 1), NOT);
    }

    static void promise11_anEmptyRow() {
        is("sales(0, -1)", told().sales(0, -1), 0);
        is("sales(0, 0)", told().sales(0, 0), NOT);
    }

    static void promise11_aTwoThatLacksItsEnd() {
        is("of one byte", told(0).sales(0, -1), 0);
        is("of three bytes", told(0, 1, 0).sales(0, -1), 1);
        is("of four bytes", told(0, 1, 0, 1).sales(0, -1), 2);
    }

    static void promise11_noAccountEndsThem() {
        is("account 5", told(0, 1, 5, 1, 0, 1).sales(0, -1), 3);
        is("account 6", told(0, 1, 6, 1, 0, 1).sales(0, -1), 1);
        is("account -1", told(0, 1, -1, 1, 0, 1).sales(0, -1), 1);
        BeesBooks x = Scenes.with(24);
        Scenes.bytes(x, 0, 0, 1, 1, 1, 0, 1);
        is("account 1 of one", x.sales(0, -1), 1);
        BeesBooks y = new BeesBooks();
        Scenes.bytes(y, 0, 0, 1);
        is("account 0 of none", y.sales(0, -1), 0);
    }

    static void promise11_noSumEndsThem() {
        is("sum 1", told(0, 2, 0, 1, 0, 2).sales(0, -1), 3);
        is("sum 6", told(0, 2, 0, 6, 0, 2).sales(0, -1), 3);
        is("sum 0", told(0, 2, 0, 0, 0, 2).sales(0, -1), 1);
        is("sum 7", told(0, 2, 0, 7, 0, 2).sales(0, -1), 1);
        is("sum -1", told(0, 2, 0, -1, 0, 2).sales(0, -1), 1);
        is("sum 10", told(0, 2, 0, 10, 0, 2).sales(0, -1), 1);
    }

    static void promise11_noCellEndsThem() {
        BeesBooks x = scarce(cells(3, 20), 1, 1, 1, 2, 1, 3);
        is("sales(0, -1)", x.sales(0, -1), 2);
        is("sales(0, 1)", x.sales(0, 1), 20);
        is("sales(0, 2)", x.sales(0, 2), NOT);
        is("on a full comb", scarce(cells(), 1, 1).sales(0, -1), 0);
        is("the first on a full comb", scarce(cells(), 1, 1).sales(0, 0), NOT);
    }

    static void promise11_thirtySales() {
        int[] bytes = new int[60];
        java.util.Arrays.fill(bytes, 1);
        BeesBooks x = told(bytes);
        is("sales(0, -1)", x.sales(0, -1), 30);
        is("sales(0, 29)", x.sales(0, 29), 29);
        is("sales(0, 30)", x.sales(0, 30), NOT);
    }

    static void promise11_oneAfterTheOther() {
        BeesBooks x = Scenes.with(24, 24);
        Scenes.bytes(x, 0, 0, 1, 1, 1, 0, 1);
        is("sales(0, 0)", x.sales(0, 0), 24);
        is("sales(0, 1)", x.sales(0, 1), 17);
        is("sales(0, 2)", x.sales(0, 2), 18);
    }

    static void promise11_changesNothing() {
        changesNothing(x -> x.sales(2, -1));
        changesNothing(x -> x.sales(2, 0));
    }

    // ---- promise 12: balance

    static void promise12_noRowOfBytes() {
        wantsBytes((x, shelf) -> x.balance(shelf, 0), NOTHING, KIND, BAD);
    }

    static void promise12_noSuchAccountIsBad() {
        for (int account : NO_ACCOUNTS) {
            refused(x -> x.balance(2, account), BAD);
        }
        refused(x -> x.balance(2, -1), BAD);
    }

    static void promise12_badAheadOfNothingAndKind() {
        refused(x -> x.balance(0, 3), BAD);
        refused(x -> x.balance(1, -1), BAD);
        refused(x -> x.balance(3, 3), BAD);
    }

    static void promise12_theFirstAndTheLastAccount() {
        BeesBooks x = told(0, 4, 5, 6, 5, 1);
        is("balance(0, 0)", x.balance(0, 0), 4);
        is("balance(0, 5)", x.balance(0, 5), 7);
        is("balance(0, 3)", x.balance(0, 3), 0);
    }

    static void promise12_anEmptyRow() {
        BeesBooks x = Scenes.byNumbers(3, 14);
        Scenes.bytes(x, 0);
        is("balance(0, 0)", x.balance(0, 0), 3);
        is("balance(0, 1)", x.balance(0, 1), 4);
    }

    static void promise12_behindWhatEndsThem() {
        is("a sum 7", told(0, 4, 0, 7, 0, 1).balance(0, 0), 4);
        is("an account 6", told(0, 4, 6, 1, 0, 1).balance(0, 0), 4);
        is("a half two", told(0, 4, 0).balance(0, 0), 4);
        is("no cell", scarce(cells(3, 20), 1, 1, 1, 2, 1, 3).balance(0, 1), 3);
        is("no cell at all", scarce(cells(), 1, 1).balance(0, 1), 0);
    }

    static void promise12_changesNothing() {
        changesNothing(x -> x.balance(2, 0));
    }

    // ---- promise 13: winter

    static void promise13_n0() {
        is("winter(0, 0)", Scenes.byNumbers(5, 3).winter(0, 0), 8);
    }

    static void promise13_n49() {
        is("of a full comb", Scenes.full(6).winter(49, 0), 0);
        is("48 of a full comb", Scenes.full(6).winter(48, 0), 6);
        is("of two", Scenes.byNumbers(5, 3).winter(49, 0), 0);
    }

    static void promise13_nBelow0IsBad() {
        refused(x -> x.winter(-1, 0), BAD);
        refused(x -> x.winter(LEAST, 0), BAD);
    }

    static void promise13_n50IsBad() {
        refused(x -> x.winter(50, 0), BAD);
        refused(x -> x.winter(MOST, 0), BAD);
    }

    static void promise13_noSuchAccountIsBad() {
        for (int account : NO_ACCOUNTS) {
            refused(x -> x.winter(1, account), BAD);
        }
        refused(x -> x.winter(1, -1), BAD);
        refused(BeesBooks::new, x -> x.winter(0, 0), BAD);
    }

    static void promise13_theLastAccount() {
        is("winter(1, 5)", Scenes.byNumbers(51, 52).winter(1, 5), 2);
    }

    static void promise13_theLeastSumFirst() {
        BeesBooks x = Scenes.byNumbers(3, 12, 4);
        is("winter(1, 1)", x.winter(1, 1), 0);
        is("winter(1, 0)", x.winter(1, 0), 7);
        is("winter(2, 0)", x.winter(2, 0), 4);
        is("winter(3, 0)", x.winter(3, 0), 0);
    }

    static void promise13_ofLikeOnesTheGreatestCell() {
        BeesBooks x = Scenes.byNumbers(2, 12, 22);
        is("winter(1, 2)", x.winter(1, 2), 0);
        is("winter(1, 1)", x.winter(1, 1), 2);
        is("winter(2, 1)", x.winter(2, 1), 0);
        is("winter(2, 0)", x.winter(2, 0), 2);
    }

    static void promise13_theLastCellAndTheFirst() {
        BeesBooks x = Scenes.laid(0, 1, 48, 11);
        is("winter(1, 1)", x.winter(1, 1), 0);
        is("winter(1, 0)", x.winter(1, 0), 1);
    }

    static void promise13_asLongAsThereAreSome() {
        BeesBooks x = Scenes.byNumbers(2, 12);
        is("winter(2, 0)", x.winter(2, 0), 0);
        is("winter(3, 0)", x.winter(3, 0), 0);
        is("of none", Scenes.with(3).winter(1, 0), 0);
    }

    static void promise13_unsealedOnesFirst() {
        // Cell 0 is sealed by 1 and 7 and holds the least sum.
        BeesBooks x = Scenes.laid(0, 1, 1, 15, 7, 16);
        is("cell(0, 2)", x.cell(0, 2), 1);
        is("winter(1, 0)", x.winter(1, 0), 1);
        is("winter(1, 1)", x.winter(1, 1), 6);
    }

    static void promise13_oneEatenUnsealsAnother() {
        BeesBooks x = Scenes.laid(0, 1, 1, 15, 7, 16);
        is("winter(2, 0)", x.winter(2, 0), 0);
        is("winter(2, 1)", x.winter(2, 1), 6);
    }

    static void promise13_ifAllAreSealedOfAll() {
        BeesBooks x = Scenes.full(2);
        x.fly(240);
        x.sale(11);
        is("count(2)", x.count(2), 49);
        is("winter(1, 1)", x.winter(1, 1), 0);
        BeesBooks y = Scenes.full(2);
        y.fly(480);
        y.sale(13);
        is("winter(1, 1)", y.winter(1, 1), 3);
        is("winter(1, 0)", y.winter(1, 0), 94);
    }

    static void promise13_oneUnsealedIsEatenThoughGreater() {
        // But for cell 48 all hold something: 40, 41 and 47 are not sealed.
        BeesBooks x = Scenes.full(1);
        x.fly(480);
        x.fly(410);
        x.sale(16);
        is("cell(41, 1)", x.cell(41, 1), 6);
        is("winter(1, 1)", x.winter(1, 1), 6);
        is("winter(1, 0)", x.winter(1, 0), 46);
        BeesBooks y = Scenes.full(1);
        y.fly(480);
        for (int cell : cells(40, 41, 47)) {
            y.fly(10 * cell);
            y.sale(12);
        }
        is("winter(1, 1): 47 of 40, 41, 47", y.winter(1, 1), 4);
        is("winter(1, 0)", y.winter(1, 0), 45);
    }

    static void promise13_changesNothing() {
        changesNothing(x -> x.winter(3, 0));
        changesNothing(x -> x.winter(49, 0));
    }

    // ---- promise 14: outlasts

    static void promise14_x1And99() {
        is("outlasts(0, 1)", Scenes.byNumbers(5, 3).outlasts(0, 1), 1);
        is("outlasts(0, 99)", Scenes.full(6).outlasts(0, 99), 32);
        is("outlasts(0, 99) of 98", Scenes.full(2).outlasts(0, 99), NOT);
    }

    static void promise14_x0IsBad() {
        refused(x -> x.outlasts(0, 0), BAD);
        refused(x -> x.outlasts(0, -1), BAD);
        refused(x -> x.outlasts(0, LEAST), BAD);
    }

    static void promise14_x100IsBad() {
        refused(() -> Scenes.full(6), x -> x.outlasts(0, 100), BAD);
        refused(() -> Scenes.full(6), x -> x.outlasts(0, MOST), BAD);
    }

    static void promise14_noSuchAccountIsBad() {
        for (int account : NO_ACCOUNTS) {
            refused(x -> x.outlasts(account, 1), BAD);
        }
        refused(x -> x.outlasts(-1, 1), BAD);
        refused(BeesBooks::new, x -> x.outlasts(0, 1), BAD);
    }

    static void promise14_badAheadOfNot() {
        answers(() -> Scenes.byNumbers(5), x -> x.outlasts(1, 100), BAD);
        answers(() -> Scenes.byNumbers(5), x -> x.outlasts(6, 99), BAD);
    }

    static void promise14_justX() {
        BeesBooks x = Scenes.byNumbers(5, 3, 4);
        is("outlasts(0, 12)", x.outlasts(0, 12), 0);
        is("outlasts(0, 10)", x.outlasts(0, 10), 0);
        is("outlasts(0, 9)", x.outlasts(0, 9), 1);
        is("outlasts(0, 6)", x.outlasts(0, 6), 1);
        is("outlasts(0, 5)", x.outlasts(0, 5), 2);
    }

    static void promise14_notEven0() {
        refused(() -> Scenes.byNumbers(5, 3, 4), x -> x.outlasts(0, 13), NOT);
        refused(() -> Scenes.byNumbers(5, 3, 4), x -> x.outlasts(1, 1), NOT);
    }

    static void promise14_48AtMost() {
        is("outlasts(0, 6)", Scenes.full(6).outlasts(0, 6), 48);
        is("outlasts(0, 7)", Scenes.full(6).outlasts(0, 7), 47);
    }

    static void promise14_theGreatestThoughOthersGoBetween() {
        BeesBooks x = Scenes.byNumbers(16, 5, 14, 13);
        is("outlasts(0, 5)", x.outlasts(0, 5), 2);
        is("outlasts(1, 6)", x.outlasts(1, 6), 3);
    }

    static void promise14_changesNothing() {
        changesNothing(x -> x.outlasts(0, 2));
    }

    // ---- promise 15: order

    static void promise15_noRowOfBytes() {
        wantsBytes((x, shelf) -> x.order(shelf, 0, -1), NOTHING, KIND, BAD);
        wantsBytes((x, shelf) -> x.order(shelf, 0, 0), NOTHING, KIND, BAD);
    }

    static void promise15_kBelowMinus1IsBad() {
        refused(x -> x.order(2, 0, -2), BAD);
        refused(x -> x.order(2, 0, LEAST), BAD);
    }

    static void promise15_n0And49() {
        BeesBooks x = told(0, 3, 0, 4);
        is("order(0, 0, -1)", x.order(0, 0, -1), 7);
        is("order(0, 49, -1)", x.order(0, 49, -1), 0);
        is("order(0, 1, -1)", x.order(0, 1, -1), 4);
    }

    static void promise15_n50IsBad() {
        refused(x -> x.order(2, 50, -1), BAD);
        refused(x -> x.order(2, 99, -1), BAD);
        refused(x -> x.order(2, 250, -1), BAD);
    }

    static void promise15_noSuchAccountIsBad() {
        refused(x -> x.order(2, 300, -1), BAD);
        refused(x -> x.order(2, 600, -1), BAD);
        refused(x -> x.order(2, MOST, -1), BAD);
        refused(x -> x.order(2, MOST - 47, -1), BAD);
        is("order(0, 549, -1)", told(5, 3).order(0, 549, -1), 0);
        is("order(0, 500, -1)", told(5, 3).order(0, 500, -1), 3);
    }

    static void promise15_anBelow0IsBad() {
        for (int an : new int[] {-1, -49, -99, -100, -101, LEAST, LEAST + 48}) {
            refused(x -> x.order(2, an, -1), BAD);
        }
    }

    static void promise15_badAheadOfNothingAndKind() {
        refused(x -> x.order(0, 50, -1), BAD);
        refused(x -> x.order(0, 0, -2), BAD);
        refused(x -> x.order(1, 300, -1), BAD);
        refused(x -> x.order(3, -1, -1), BAD);
    }

    static void promise15_noSales() {
        BeesBooks x = Scenes.byNumbers(2, 5);
        Scenes.bytes(x, 0);
        is("order(0, 0, -1)", x.order(0, 0, -1), 7);
        is("order(0, 1, -1)", x.order(0, 1, -1), 5);
        is("order(0, 0, 0)", x.order(0, 0, 0), NOT);
        is("a half two", told(0).order(0, 0, 0), NOT);
    }

    static void promise15_oneSale() {
        BeesBooks x = told(0, 3);
        is("order(0, 0, -1)", x.order(0, 0, -1), 3);
        is("order(0, 0, 0)", x.order(0, 0, 0), 0);
        is("order(0, 0, 1)", x.order(0, 0, 1), NOT);
    }

    static void promise15_notAsMany() {
        refused(() -> told(0, 3, 1, 3, 2, 3), x -> x.order(0, 1, 3), NOT);
        refused(() -> told(0, 3, 1, 3, 2, 3), x -> x.order(0, 1, MOST), NOT);
        is("the last", told(0, 3, 1, 3, 2, 3).order(0, 1, 2), 2);
    }

    static void promise15_notAsManyAsALongerRowBefore() {
        BeesBooks x = told(0, 3, 1, 3, 2, 3);
        is("order(0, 0, 2)", x.order(0, 0, 2), 2);
        Scenes.bytes(x, 1, 0, 3);
        is("order(1, 0, 1)", x.order(1, 0, 1), NOT);
    }

    static void promise15_aTwoThatIsNoneEndsThem() {
        BeesBooks x = told(0, 3, 0, 7, 0, 3);
        is("order(0, 0, -1)", x.order(0, 0, -1), 3);
        is("order(0, 0, 1)", x.order(0, 0, 1), NOT);
        BeesBooks y = told(0, 3, 6, 1, 0, 3);
        is("order(0, 0, -1)", y.order(0, 0, -1), 3);
        is("order(0, 0, 1)", y.order(0, 0, 1), NOT);
    }

    private static void orderIs(BeesBooks x, int an, int... places) {
        for (int k = 0; k < places.length; k++) {
            is("order(0, " + an + ", " + k + ")", x.order(0, an, k), places[k]);
        }
        is("order(0, " + an + ", " + places.length + ")", x.order(0, an, places.length), NOT);
    }

    static void promise15_theFifthSaleIsOrdered() {
        // By numbers, like sums: a winter of one eats what is told last.
        BeesBooks x = told(0, 3, 0, 3, 0, 3, 0, 3, 1, 3);
        is("order(0, 101, -1)", x.order(0, 101, -1), 3);
        orderIs(x, 101, 0, 1, 2, 4, 3);
    }

    static void promise15_theSixthSaleStaysBehind() {
        BeesBooks x = told(0, 3, 0, 3, 0, 3, 0, 3, 0, 3, 1, 3);
        is("order(0, 101, -1)", x.order(0, 101, -1), 0);
        orderIs(x, 101, 0, 1, 2, 3, 4);
        is("without a winter", x.order(0, 100, -1), 3);
    }

    static void promise15_theRestIsToldBehind() {
        // A winter of two eats the sixth and what is told fifth.
        BeesBooks x = told(0, 3, 0, 3, 0, 3, 0, 3, 1, 3, 2, 3);
        is("order(0, 102, -1)", x.order(0, 102, -1), 3);
        orderIs(x, 102, 0, 1, 2, 4, 3);
        is("order(0, 201, -1)", x.order(0, 201, -1), 0);
    }

    static void promise15_theFirstOrderByPlaces() {
        orderIs(told(0, 3, 0, 3, 0, 3, 0, 3, 0, 3), 0, 0, 1, 2, 3, 4);
        orderIs(told(1, 3, 0, 3, 0, 3, 0, 3, 0, 3), 101, 0, 1, 2, 3, 4);
        orderIs(told(0, 3, 0, 3, 0, 3, 0, 3, 1, 3), 104, 4, 0, 1, 2, 3);
        orderIs(told(0, 3, 0, 3, 0, 3, 0, 3, 1, 3), 103, 0, 4, 1, 2, 3);
        orderIs(told(0, 3, 0, 3, 0, 3, 0, 3, 1, 3), 105, 0, 1, 2, 3, 4);
    }

    static void promise15_theLastOrderByPlaces() {
        // Of all 120 orders none but the last one leaves as much.
        BeesBooks x = Scenes.full(16);
        x.fly(402);
        is("law", Scenes.told(x, "(n<s)*r"), 1);
        Scenes.bytes(x, 0, 0, 6, 0, 3, 1, 3, 1, 1, 0, 2);
        is("order(0, 2, -1)", x.order(0, 2, -1), 11);
        orderIs(x, 2, 4, 3, 2, 1, 0);
    }

    static void promise15_anOrderInTheMiddle() {
        BeesBooks x = told(0, 3, 0, 3, 0, 3, 1, 3, 1, 3);
        is("order(0, 103, -1)", x.order(0, 103, -1), 6);
        orderIs(x, 103, 3, 4, 0, 1, 2);
    }

    static void promise15_twoSales() {
        orderIs(told(0, 3, 1, 3), 101, 1, 0);
        orderIs(told(0, 3, 1, 3), 1, 0, 1);
    }

    static void promise15_aSaleWithoutACellEndsItsOrder() {
        BeesBooks x = scarce(cells(20), 1, 1, 2, 6);
        is("order(0, 200, -1)", x.order(0, 200, -1), 6);
        orderIs(x, 200, 1, 0);
        orderIs(x, 100, 0, 1);
        is("no cell at all", scarce(cells(), 1, 1, 2, 6).order(0, 200, -1), 0);
        orderIs(scarce(cells(), 1, 1, 2, 6), 200, 0, 1);
    }

    static void promise15_changesNothing() {
        changesNothing(x -> x.order(2, 3, -1));
        changesNothing(x -> x.order(2, 3, 0));
    }

    // ---- promise 16: heat

    static void promise16_minus1IsHowMany() {
        is("heat(-1)", Scenes.laid(24, 3, 25, 14).heat(-1), 1);
        is("heat(-1) without accounts", new BeesBooks().heat(-1), 0);
    }

    static void promise16_noSuchAccountIsBad() {
        for (int account : NO_ACCOUNTS) {
            refused(x -> x.heat(account), BAD);
        }
        refused(BeesBooks::new, x -> x.heat(0), BAD);
        refused(() -> Scenes.laid(24, 3, 25, 14), x -> x.heat(6), BAD);
    }

    static void promise16_theFirstAndTheLastAccount() {
        BeesBooks x = Scenes.laid(24, 3, 25, 54);
        is("heat(0)", x.heat(0), 0);
        is("heat(5)", x.heat(5), 7);
    }

    static void promise16_theLesserSumTurns() {
        is("of the lesser cell", Scenes.laid(24, 3, 25, 14).heat(1), 7);
        is("of the greater cell", Scenes.laid(24, 4, 25, 13).heat(0), 7);
    }

    static void promise16_ofLikeOnesTheGreaterCellTurns() {
        is("heat(0)", Scenes.laid(24, 3, 25, 13).heat(0), 6);
        is("heat(1)", Scenes.laid(24, 3, 25, 13).heat(1), 0);
        is("heat(1)", Scenes.laid(0, 13, 1, 3).heat(1), 6);
        is("heat(1)", Scenes.laid(40, 13, 48, 3).heat(1), 6);
    }

    static void promise16_likeAccountsDoNotTurn() {
        is("heat(-1)", Scenes.laid(24, 3, 25, 4).heat(-1), 0);
    }

    static void promise16_thoseApartDoNotTurn() {
        is("heat(-1)", Scenes.laid(24, 3, 26, 14).heat(-1), 0);
        is("heat(-1) of a row's end and the next row", Scenes.laid(6, 3, 7, 14).heat(-1), 0);
    }

    static void promise16_oneOfTwoHoldsNothing() {
        is("heat(-1)", Scenes.laid(24, 3).heat(-1), 0);
    }

    static void promise16_theSealedDoNotTurn() {
        BeesBooks x = Scenes.laid(0, 1, 1, 15, 7, 16);
        is("the lesser cell is sealed", x.heat(-1), 0);
        BeesBooks y = Scenes.laid(48, 1, 40, 15, 41, 15, 47, 16);
        is("the greater cell is sealed", y.heat(-1), 0);
        BeesBooks z = Scenes.laid(0, 6, 1, 11, 7, 11);
        is("nor make others turn", z.heat(-1), 0);
        z.fly(70);
        is("without a seal", z.heat(-1), 1);
    }

    static void promise16_aCellMayTurnTwice() {
        // 24 becomes account 1's by 25, then account 2's by 32; 25 becomes account 2's by 32.
        BeesBooks x = Scenes.laid(24, 1, 25, 12, 32, 23);
        is("heat(-1)", x.heat(-1), 3);
        is("heat(0)", x.heat(0), 0);
        is("heat(1)", x.heat(1), 0);
        is("heat(2)", x.heat(2), 6);
    }

    static void promise16_byNumbers() {
        // 24 becomes account 1's ahead of 25 becoming account 2's.
        BeesBooks x = Scenes.laid(24, 2, 25, 13, 26, 24);
        is("heat(-1)", x.heat(-1), 2);
        is("heat(1)", x.heat(1), 2);
        is("heat(2)", x.heat(2), 7);
        // Among the neighbours 25 comes ahead of 31: then 24 is account 1's and so is 31.
        BeesBooks y = Scenes.laid(24, 4, 25, 16, 31, 24);
        is("heat(-1)", y.heat(-1), 2);
        is("heat(1)", y.heat(1), 14);
    }

    static void promise16_changesNothing() {
        changesNothing(x -> x.heat(-1));
        changesNothing(x -> x.heat(2));
    }

    // ---- promise 17: swarm

    private static final int[] NO_SWARMS = {-1, -2, -10, 4, 9, 14, 249, 484, 489, 490, 493, 500, LEAST, MOST, MOST - 6};

    static void promise17_noSuchCellOrMIsBad() {
        for (int cm : NO_SWARMS) {
            refused(x -> x.swarm(cm, -1), BAD);
            refused(x -> x.swarm(cm, 0), BAD);
        }
    }

    static void promise17_m0And3() {
        int[] about = {1, 7, 19, 37};
        for (int m = 0; m <= 3; m++) {
            is("swarm(" + (240 + m) + ", -1)", Scenes.full(1).swarm(240 + m, -1), about[m]);
            is("swarm(" + (240 + m) + ", 0)", Scenes.full(1).swarm(240 + m, 0), 49 - about[m]);
        }
    }

    static void promise17_theFirstAndTheLastCell() {
        for (int cell : cells(0, 48, 6, 42)) {
            for (int m = 0; m <= 3; m++) {
                int about = 0;
                for (int other = 0; other < 49; other++) {
                    about += Model.steps(cell, other) <= m ? 1 : 0;
                }
                int cm = 10 * cell + m;
                is("swarm(" + cm + ", -1)", Scenes.full(1).swarm(cm, -1), about);
            }
        }
    }

    static void promise17_noFartherThanM() {
        BeesBooks x = Scenes.laid(24, 1, 26, 12, 27, 23);
        is("swarm(240, -1)", x.swarm(240, -1), 1);
        is("swarm(241, -1)", x.swarm(241, -1), 1);
        is("swarm(242, -1)", x.swarm(242, -1), 2);
        is("swarm(243, -1)", x.swarm(243, -1), 3);
        is("swarm(242, 1)", x.swarm(242, 1), 0);
        is("swarm(242, 2)", x.swarm(242, 2), 3);
        is("swarm(241, 1)", x.swarm(241, 1), 2);
    }

    static void promise17_noneHeldSomething() {
        is("swarm(243, -1)", Scenes.laid(0, 1).swarm(243, -1), 0);
        is("swarm(243, -1) without accounts", new BeesBooks().swarm(243, -1), 0);
    }

    static void promise17_noSuchAccountIsBad() {
        for (int account : NO_ACCOUNTS) {
            refused(x -> x.swarm(0, account), BAD);
        }
        refused(BeesBooks::new, x -> x.swarm(0, 0), BAD);
        refused(() -> Scenes.laid(24, 3), x -> x.swarm(0, 6), BAD);
        is("swarm(0, 5)", Scenes.laid(24, 53).swarm(0, 5), 3);
    }

    static void promise17_changesNothing() {
        changesNothing(x -> x.swarm(243, -1));
        changesNothing(x -> x.swarm(3, 1));
    }

    // ---- promise 18: least

    private static void leastIs(BeesBooks x, int account, int at, int loss, int cell, int m) {
        is("least(" + account + ", " + at + ", 0)", x.least(account, at, 0), loss);
        is("least(" + account + ", " + at + ", 1)", x.least(account, at, 1), cell);
        is("least(" + account + ", " + at + ", 2)", x.least(account, at, 2), m);
    }

    static void promise18_x1And37() {
        leastIs(Scenes.full(2), 0, 1, 2, 0, 0);
        leastIs(Scenes.full(2), 0, 37, 74, 24, 3);
    }

    static void promise18_x0IsBad() {
        refused(x -> x.least(0, 0, 0), BAD);
        refused(x -> x.least(0, -1, 0), BAD);
        refused(x -> x.least(0, LEAST, 0), BAD);
    }

    static void promise18_x38IsBad() {
        for (int what = 0; what <= 2; what++) {
            int asked = what;
            refused(() -> Scenes.full(1), x -> x.least(0, 38, asked), BAD);
            refused(() -> Scenes.full(1), x -> x.least(0, MOST, asked), BAD);
        }
    }

    static void promise18_noSuchWhatIsBad() {
        for (int what : new int[] {-1, 3, LEAST, MOST}) {
            refused(x -> x.least(0, 1, what), BAD);
        }
    }

    static void promise18_noSuchAccountIsBad() {
        for (int account : NO_ACCOUNTS) {
            refused(x -> x.least(account, 1, 0), BAD);
        }
        refused(x -> x.least(-1, 1, 0), BAD);
        refused(BeesBooks::new, x -> x.least(0, 1, 0), BAD);
    }

    static void promise18_byNone() {
        for (int what = 0; what <= 2; what++) {
            int asked = what;
            refused(() -> Scenes.laid(24, 1, 25, 1), x -> x.least(0, 3, asked), NOT);
            refused(() -> Scenes.with(24), x -> x.least(0, 1, asked), NOT);
        }
        BeesBooks x = Scenes.full(1);
        x.fly(240);
        leastIs(x, 0, 37, NOT, NOT, NOT);
        leastIs(x, 0, 36, 36, 24, 3);
    }

    static void promise18_badAheadOfNot() {
        answers(() -> Scenes.laid(24, 1), x -> x.least(0, 37, 3), BAD);
        answers(() -> Scenes.laid(24, 1), x -> x.least(0, 38, 0), BAD);
        answers(() -> Scenes.laid(24, 1), x -> x.least(6, 37, 0), BAD);
    }

    static void promise18_justX() {
        leastIs(Scenes.laid(24, 1, 25, 1), 0, 2, 2, 18, 1);
        leastIs(Scenes.laid(24, 1, 25, 1), 0, 1, 1, 24, 0);
    }

    static void promise18_moreThanXMayGo() {
        // About 25 all three go; about 18, beside 24 and 25 alone, two.
        leastIs(Scenes.laid(24, 11, 25, 11, 26, 11), 0, 2, 0, 18, 1);
        leastIs(Scenes.laid(24, 11, 26, 11), 0, 2, 0, 25, 1);
    }

    static void promise18_theLeastLoss() {
        leastIs(Scenes.laid(0, 2, 48, 1), 0, 1, 1, 48, 0);
        leastIs(Scenes.laid(0, 1, 48, 2), 0, 1, 1, 0, 0);
        leastIs(Scenes.laid(0, 2, 48, 12), 0, 1, 0, 48, 0);
    }

    static void promise18_ofLikeOnesTheLeastM() {
        // By 1 to 3, about lesser cells, the loss is the same.
        leastIs(Scenes.laid(24, 3), 0, 1, 3, 24, 0);
        leastIs(Scenes.laid(24, 3), 1, 1, 0, 24, 0);
        leastIs(Scenes.laid(24, 13, 25, 13), 0, 2, 0, 18, 1);
    }

    static void promise18_ofLikeOnesTheLeastCell() {
        leastIs(Scenes.laid(30, 13, 20, 13), 0, 1, 0, 20, 0);
        leastIs(Scenes.laid(30, 3, 20, 3), 0, 1, 3, 20, 0);
        leastIs(Scenes.laid(40, 11, 41, 11), 0, 2, 0, 34, 1);
    }

    static void promise18_aGreaterMThatCostsLess() {
        // 22 and 25 together about 24 by 2, without 21; 21 and 22 go by 1 and cost 6.
        BeesBooks x = Scenes.laid(21, 6, 22, 11, 25, 11);
        is("least(0, 2, 0)", x.least(0, 2, 0), 0);
        is("least(0, 2, 2)", x.least(0, 2, 2), 2);
        is("least(1, 2, 0)", x.least(1, 2, 0), 1);
        is("least(1, 2, 2)", x.least(1, 2, 2), 1);
    }

    static void promise18_changesNothing() {
        changesNothing(x -> x.least(0, 1, 0));
        changesNothing(x -> x.least(0, 37, 0));
    }
}
