/** One method for each promise of the document: ordinary inputs, its edges, and wrong inputs. */
public final class PromiseTest {
    private static final Due DUE = new Due("PromiseTest");
    private static final long BAD_LONG = Long.MIN_VALUE;
    private static final int BYTES = 0, SHORTS = 1, INTS = 2, LONGS = 3, BOOLEANS = 4;

    private PromiseTest() {
    }

    public static void main(String[] args) {
        comb();
        inThought();
        dancesAndCells();
        inDeed();
        actsAndShelves();
        DUE.end();
    }

    private static void comb() {
        promise1();
        promise2();
        promise3();
        promise4();
        promise5();
        promise6();
        promise7();
        promise8And9();
    }

    private static void inThought() {
        promise10();
        promise11();
        promise12();
        promise13();
        promise14();
        promise15();
        promise16();
        promise17();
        promise18();
    }

    private static void dancesAndCells() {
        promise19();
        promise20();
        promise21();
        promise22();
        promise23();
        promise24();
        promise25();
        promise26();
        promise27();
    }

    private static void inDeed() {
        promise28();
        promise29();
        promise30();
        promise31();
        promise32();
        promise33And34();
        promise35And36();
    }

    private static void actsAndShelves() {
        promise37();
        promise38();
        promise39();
        promise40();
        promise41();
        promise42();
        promise43();
        promise44();
        promise45();
        promise46();
    }

    private static void is(String call, long got, long want) {
        DUE.is(call, got, want);
    }

    private static void row(BeesBooks x, int shelf, int... bytes) {
        is("row", x.row(shelf, BYTES, bytes.length), 1);
        for (int i = 0; i < bytes.length; i++) {
            is("put", x.put(shelf, i, bytes[i]), 1);
        }
    }

    private static int tell(BeesBooks x, String text) {
        for (int i = 0; i < text.length(); i++) {
            x.feed(text.charAt(i));
        }
        return x.law();
    }

    /** By the law "1" sales fill the cells by their numbers. */
    private static BeesBooks filledByNumbers(int... as) {
        BeesBooks x = new BeesBooks();
        for (int i = 0; i < 6; i++) {
            x.account(i);
        }
        is("law of 1", tell(x, "1"), 1);
        for (int i = 0; i < as.length; i++) {
            is("sale", x.sale(as[i]), i);
        }
        return x;
    }

    private static BeesBooks full(int as) {
        int[] sales = new int[49];
        java.util.Arrays.fill(sales, as);
        return filledByNumbers(sales);
    }

    /** The same refusals wherever a row of bytes is wanted: shelf 0 nothing, 1 a hive, 2 ints. */
    private static BeesBooks oddShelves() {
        BeesBooks x = new BeesBooks();
        x.account(24);
        x.body(0);
        x.keep(1, 0);
        x.row(2, INTS, 4);
        return x;
    }

    private static void promise1() {
        BeesBooks x = new BeesBooks();
        for (int what = 0; what <= 6; what++) {
            is("count(" + what + ")", x.count(what), 0);
        }
        for (int cell = 0; cell < 49; cell++) {
            is("cell(" + cell + ", 0)", x.cell(cell, 0), -2);
            is("cell(" + cell + ", 1)", x.cell(cell, 1), 0);
            is("cell(" + cell + ", 2)", x.cell(cell, 2), 0);
        }
        for (int what = 0; what < 6; what++) {
            is("led(" + what + ")", x.led(what), 0);
            is("element(" + what + ", 0)", x.element(what, 0), BAD_LONG);
            is("put(" + what + ", 0, 1)", x.put(what, 0, 1), -11);
        }
        is("guards", x.of(0, 1), 6);
        is("flip", x.of(0, 2), 1);
        is("undo", x.undo(), -5);
        is("redo", x.redo(), -5);
        is("back", x.back(), -5);
        is("trace", x.trace(0), -1);
        is("BAD", BeesBooks.BAD, -1);
        is("NOT", BeesBooks.NOT, -2);
        is("FULL", BeesBooks.FULL, -3);
        is("STATE", BeesBooks.STATE, -5);
        is("VOID", BeesBooks.VOID, -2000000000);
    }

    private static void promise2() {
        BeesBooks x = new BeesBooks();
        is("account(-1)", x.account(-1), -1);
        is("account(49)", x.account(49), -1);
        is("account(min)", x.account(Integer.MIN_VALUE), -1);
        for (int i = 0; i < 6; i++) {
            is("account", x.account(48 - i), i);
            is("its door", x.of(i, 0), 48 - i);
            is("count(0)", x.count(0), i + 1);
        }
        is("a seventh", x.account(0), -3);
        is("BAD ahead of FULL", x.account(49), -1);
        is("count(0)", x.count(0), 6);
    }

    private static void promise3() {
        BeesBooks x = new BeesBooks();
        row(x, 0, 3, 48, 0, 49, 5, -1, 7);
        is("up to 49", x.accounts(0, 0, 6), 3);
        is("door 1", x.of(1, 0), 48);
        is("at 49", x.accounts(0, 3, 1), 0);
        is("up to -1", x.accounts(0, 4, 2), 1);
        is("n of them", x.accounts(0, 0, 1), 1);
        is("up to the end", x.accounts(0, 6, 6), 1);
        is("full", x.accounts(0, 0, 6), 0);
        is("count(0)", x.count(0), 6);
        BeesBooks y = oddShelves();
        row(y, 3, 1, 2, 3, 4, 5, 6);
        is("missing", y.accounts(0, 0, 6), 0);
        is("hive", y.accounts(1, 0, 6), -12);
        is("ints", y.accounts(2, 0, 6), -12);
        is("n 0", y.accounts(0, 0, 0), -1);
        is("n 7", y.accounts(3, 0, 7), -1);
        is("n 7 of ints", y.accounts(2, 0, 7), -1);
        is("shelf -1", y.accounts(-1, 0, 1), -1);
        is("shelf 6", y.accounts(6, 0, 1), -1);
        is("i -1", y.accounts(3, -1, 1), 0);
        is("i -1, n 6", y.accounts(3, -1, 6), 0);
        is("i min", y.accounts(3, Integer.MIN_VALUE, 6), 0);
        is("i -1 of what is missing", y.accounts(0, -1, 1), 0);
        is("i -1 of a hive", y.accounts(1, -1, 1), -12);
        is("i -1 of ints", y.accounts(2, -1, 1), -12);
        is("i -1, n 0", y.accounts(3, -1, 0), -1);
        is("i -1, n 7", y.accounts(3, -1, 7), -1);
        is("i -1 of shelf 6", y.accounts(6, -1, 1), -1);
        is("i 6", y.accounts(3, 6, 1), 0);
        is("i max", y.accounts(3, Integer.MAX_VALUE, 6), 0);
        is("none came", y.count(0), 1);
        is("until they are full", y.accounts(3, 0, 6), 5);
        is("the last door", y.of(5, 0), 5);
    }

    private static void promise4() {
        BeesBooks x = new BeesBooks();
        is("no account", x.mend(0, 0, 1), -1);
        x.account(10);
        x.account(11);
        is("door", x.mend(1, 0, 48), 11);
        is("door again", x.mend(1, 0, 0), 48);
        is("the other's", x.of(0, 0), 10);
        is("door 49", x.mend(1, 0, 49), -1);
        is("door -1", x.mend(1, 0, -1), -1);
        is("account 2", x.mend(2, 0, 0), -1);
        is("account -1", x.mend(-1, 0, 0), -1);
        is("guards", x.mend(0, 1, 12), 6);
        is("guards again", x.mend(0, 1, 0), 12);
        is("guards 13", x.mend(0, 1, 13), -1);
        is("guards -1", x.mend(0, 1, -1), -1);
        is("guards of 1", x.mend(1, 1, 3), -1);
        is("flip", x.mend(0, 2, 6), 1);
        is("flip again", x.mend(0, 2, 0), 6);
        is("flip 7", x.mend(0, 2, 7), -1);
        is("flip -1", x.mend(0, 2, -1), -1);
        is("flip of 1", x.mend(1, 2, 3), -1);
        is("what 3", x.mend(0, 3, 0), -1);
        is("what -1", x.mend(0, -1, 0), -1);
        is("the door rules", x.where(11), 0);
        is("guards now", x.of(0, 1), 0);
        is("flip now", x.of(0, 2), 0);
    }

    private static void promise5() {
        BeesBooks x = filledByNumbers(3, 15, 6, 26);
        is("door", x.of(5, 0), 5);
        is("guards", x.of(0, 1), 6);
        is("flip", x.of(0, 2), 1);
        is("guards of 1", x.of(1, 1), -1);
        is("flip of -1", x.of(-1, 2), -1);
        is("balance 0", x.of(0, 3), 9);
        is("balance 1", x.of(1, 3), 5);
        is("balance 2", x.of(2, 3), 6);
        is("balance 3", x.of(3, 3), 0);
        is("balance 6", x.of(6, 3), -1);
        is("balance -1", x.of(-1, 3), -1);
        is("door 6", x.of(6, 0), -1);
        is("what 4", x.of(0, 4), -1);
        is("what -1", x.of(0, -1), -1);
        is("guards without accounts", new BeesBooks().of(0, 1), 6);
        is("door without accounts", new BeesBooks().of(0, 0), -1);
    }

    private static void sides(int cell, int... others) {
        BeesBooks x = new BeesBooks();
        is("cell(" + cell + ", 3)", x.cell(cell, 3), others.length);
        for (int k = 0; k < 6; k++) {
            is("cell(" + cell + ", " + (4 + k) + ")", x.cell(cell, 4 + k), k < others.length ? others[k] : -2);
        }
    }

    private static void promise6() {
        sides(0, 1, 7);
        sides(3, 2, 4, 9, 10);
        sides(6, 5, 12, 13);
        sides(7, 0, 1, 8, 14, 15);
        sides(13, 6, 12, 20);
        sides(14, 7, 15, 21);
        sides(16, 8, 9, 15, 17, 22, 23);
        sides(20, 12, 13, 19, 26, 27);
        sides(24, 17, 18, 23, 25, 31, 32);
        sides(42, 35, 43);
        sides(45, 37, 38, 44, 46);
        sides(48, 40, 41, 47);
        BeesBooks x = filledByNumbers(1, 12, 23, 34, 45, 56, 6, 5);
        is("whose", x.cell(5, 0), 5);
        is("sum", x.cell(5, 1), 6);
        is("0 is sealed by 1 and 7", x.cell(0, 2), 1);
        is("1 is not: 8 lacks", x.cell(1, 2), 0);
        is("8 is empty", x.cell(8, 2), 0);
        is("8 is nobody's", x.cell(8, 0), -2);
        is("sum of 8", x.cell(8, 1), 0);
        is("fly", x.fly(0), 1);
        is("an empty cell among full ones", x.cell(0, 2), 0);
        is("cell 49", x.cell(49, 0), -1);
        is("cell -1", x.cell(-1, 0), -1);
        is("what 10", x.cell(0, 10), -1);
        is("what -1", x.cell(0, -1), -1);
        is("what max", x.cell(0, Integer.MAX_VALUE), -1);
        is("the least of a full comb", full(1).cell(48, 2), 1);
    }

    private static void promise7() {
        long[] beside = new long[49];
        for (int cell = 0; cell < 49; cell++) {
            BeesBooks x = new BeesBooks();
            for (int k = 0; k < x.cell(cell, 3); k++) {
                beside[cell] |= 1L << x.cell(cell, 4 + k);
            }
        }
        for (int one = 0; one < 49; one++) {
            BeesBooks x = new BeesBooks();
            for (int other = 0; other < 49; other++) {
                is("far(" + one + ", " + other + ")", x.far(one, other), walked(beside, one, other));
            }
        }
        BeesBooks x = new BeesBooks();
        is("far(0, 48)", x.far(0, 48), 9);
        is("far(6, 42)", x.far(6, 42), 9);
        is("far(49, 0)", x.far(49, 0), -1);
        is("far(0, 49)", x.far(0, 49), -1);
        is("far(-1, 0)", x.far(-1, 0), -1);
        is("far(0, -1)", x.far(0, -1), -1);
    }

    /** Steps from neighbour to neighbour, told by cell() alone. */
    private static int walked(long[] beside, int one, int other) {
        long reached = 1L << one;
        int steps = 0;
        while ((reached >> other & 1) == 0) {
            long next = reached;
            for (int cell = 0; cell < 49; cell++) {
                next |= (reached >> cell & 1) == 1 ? beside[cell] : 0;
            }
            reached = next;
            steps++;
        }
        return steps;
    }

    /** More of the law stands in LawTest. */
    private static void promise8And9() {
        BeesBooks x = new BeesBooks();
        is("feed", x.feed('d'), 1);
        is("feed", x.feed('*'), 2);
        is("feed(256)", x.feed(256), -1);
        is("feed(-1)", x.feed(-1), -1);
        is("count(3)", x.count(3), 2);
        is("too early", x.law(), -102);
        is("the tape is empty", x.count(3), 0);
        is("empty", x.law(), -100);
        is("feed", x.feed('d'), 1);
        is("law", x.law(), 1);
        is("the tape is empty", x.count(3), 0);
        for (int i = 0; i < 120; i++) {
            is("feed", x.feed(i % 2 == 0 ? 'd' : '+'), i + 1);
        }
        is("full", x.feed('d'), -3);
        is("BAD ahead of FULL", x.feed(-1), -1);
        is("a full tape", x.law(), -220);
    }

    private static void promise10() {
        BeesBooks x = new BeesBooks();
        is("no account", x.where(1), -1);
        x.account(0);
        is("sum 0", x.where(0), -1);
        is("sum 7", x.where(7), -1);
        is("account 1", x.where(11), -1);
        is("-1", x.where(-1), -1);
        is("min", x.where(Integer.MIN_VALUE), -1);
        is("the door", x.where(6), 0);
        is("nothing is written", x.count(1), 0);
        x.sale(1);
        is("the least of 1 and 7", x.where(1), 1);
        is("no cell is empty", full(1).where(1), -2);
        is("BAD ahead of NOT", full(1).where(7), -1);
    }

    private static void bytesRefusals(java.util.function.ToLongBiFunction<BeesBooks, Integer> call) {
        BeesBooks x = oddShelves();
        is("nothing", call.applyAsLong(x, 0), -11);
        is("a hive", call.applyAsLong(x, 1), -12);
        is("ints", call.applyAsLong(x, 2), -12);
        is("shelf -1", call.applyAsLong(x, -1), -1);
        is("shelf 6", call.applyAsLong(x, 6), -1);
    }

    private static void promise11() {
        bytesRefusals((x, shelf) -> x.sales(shelf, -1));
        bytesRefusals((x, shelf) -> x.sales(shelf, 3));
        BeesBooks x = filledByNumbers();
        row(x, 0, 0, 1, 5, 6, 3, 2, 6, 1, 0, 1);
        is("up to account 6", x.sales(0, -1), 3);
        is("the first", x.sales(0, 0), 0);
        is("the third", x.sales(0, 2), 2);
        is("no fourth", x.sales(0, 3), -2);
        is("no max", x.sales(0, Integer.MAX_VALUE), -2);
        is("k -2", x.sales(0, -2), -1);
        is("k -2 of nothing", x.sales(3, -2), -1);
        is("in thought", x.count(1), 0);
        is("no sale is led", x.led(0), 0);
        row(x, 0, 0, 1, 1, 0, 0, 1);
        is("sum 0", x.sales(0, -1), 1);
        row(x, 0, 0, 1, 1, 7, 0, 1);
        is("sum 7", x.sales(0, -1), 1);
        row(x, 0, -1, 1);
        is("account -1", x.sales(0, -1), 0);
        row(x, 0, 0, 1, 1, 1, 2);
        is("a two that lacks its end", x.sales(0, -1), 2);
        row(x, 0);
        is("an empty row", x.sales(0, -1), 0);
        is("an empty row's first", x.sales(0, 0), -2);
        BeesBooks y = full(1);
        y.fly(200);
        y.fly(30);
        row(y, 0, 0, 1, 1, 1, 2, 1);
        is("two cells are left", y.sales(0, -1), 2);
        is("the greater", y.sales(0, 1), 20);
        is("no third", y.sales(0, 2), -2);
    }

    private static void promise12() {
        bytesRefusals((x, shelf) -> x.balance(shelf, 0));
        BeesBooks x = filledByNumbers(4, 15);
        row(x, 0, 0, 1, 1, 6, 0, 5, 0, 9, 0, 6);
        is("account 0", x.balance(0, 0), 10);
        is("account 1", x.balance(0, 1), 11);
        is("account 2", x.balance(0, 2), 0);
        is("account 6", x.balance(0, 6), -1);
        is("account -1", x.balance(0, -1), -1);
        is("account 6 of nothing", x.balance(1, 6), -1);
        is("in thought", x.of(0, 3), 4);
    }

    private static void promise13() {
        BeesBooks x = filledByNumbers(5, 15, 2, 14, 2, 6);
        is("none", x.winter(0, 0), 15);
        is("of 2 and 2 the greater cell", x.winter(1, 0), 13);
        is("both", x.winter(2, 0), 11);
        is("then the 4", x.winter(3, 1), 5);
        is("then the 5 of the greater cell", x.winter(4, 1), 0);
        is("then the other", x.winter(5, 0), 6);
        is("all", x.winter(6, 0), 0);
        is("more than all", x.winter(49, 0), 0);
        is("n 50", x.winter(50, 0), -1);
        is("n -1", x.winter(-1, 0), -1);
        is("account 6", x.winter(0, 6), -1);
        is("account -1", x.winter(0, -1), -1);
        is("in thought", x.count(1), 6);
        // Cell 0 (a 1) is sealed by 1 and 7: it is eaten behind what is not, though its sum is the least.
        BeesBooks y = filledByNumbers(1, 12, 12, 12, 12, 12, 12, 12);
        is("7 goes first and unseals it", y.winter(1, 1), 12);
        is("then it goes", y.winter(2, 0), 0);
        is("and not 7", y.winter(1, 0), 1);
        BeesBooks z = full(2);
        z.eat(1);
        z.sale(11);
        is("all are sealed", z.count(2), 49);
        is("then of all", z.winter(1, 1), 0);
        is("a full comb by a sum", full(3).winter(49, 0), 0);
        is("a full comb but one", full(3).winter(48, 0), 3);
    }

    private static void promise14() {
        BeesBooks x = filledByNumbers(5, 15, 2, 14, 2, 6);
        is("15", x.outlasts(0, 15), 0);
        is("16", x.outlasts(0, 16), -2);
        is("14", x.outlasts(0, 14), 0);
        is("13", x.outlasts(0, 13), 1);
        is("11", x.outlasts(0, 11), 4);
        is("6", x.outlasts(0, 6), 5);
        is("1", x.outlasts(0, 1), 5);
        is("account 1 by 9", x.outlasts(1, 9), 2);
        is("account 1 by 1", x.outlasts(1, 1), 3);
        is("account 2", x.outlasts(2, 1), -2);
        is("x 0", x.outlasts(0, 0), -1);
        is("x 100", x.outlasts(0, 100), -1);
        is("x 99", x.outlasts(0, 99), -2);
        is("account 6", x.outlasts(6, 1), -1);
        is("account -1", x.outlasts(-1, 1), -1);
        is("in thought", x.count(1), 6);
        is("a full comb", full(6).outlasts(0, 6), 48);
        is("a full comb by 99", full(6).outlasts(0, 99), 49 - 17);
    }

    private static void promise15() {
        bytesRefusals((x, shelf) -> x.order(shelf, 0, -1));
        BeesBooks x = filledByNumbers();
        row(x, 0, 0, 3, 1, 3);
        is("told so", x.order(0, 0, -1), 3);
        // A winter of one eats the greater cell: account 1 should be told first.
        is("account 1", x.order(0, 101, -1), 3);
        is("its first", x.order(0, 101, 0), 1);
        is("its second", x.order(0, 101, 1), 0);
        is("no third", x.order(0, 101, 2), -2);
        is("account 0", x.order(0, 1, 0), 0);
        is("of like ones the first", x.order(0, 200, 0), 0);
        is("account 2", x.order(0, 200, -1), 0);
        row(x, 0, 0, 3, 0, 3, 1, 3, 0, 3, 0, 3, 1, 3, 0, 3);
        // The rest stands behind: places 5 and 6 are eaten first, and places 3 and 4 in the best order not.
        is("six and seven behind", x.order(0, 102, -1), 3);
        is("the first of like ones", x.order(0, 102, 0), 0);
        is("told third", x.order(0, 102, 2), 2);
        is("the best for a winter of six", x.order(0, 106, -1), 3);
        is("told first", x.order(0, 106, 0), 2);
        is("then by places", x.order(0, 106, 1), 0);
        is("the fifth", x.order(0, 106, 4), 4);
        is("no sixth in the order", x.order(0, 106, 5), -2);
        is("k -2", x.order(0, 106, -2), -1);
        is("n 50", x.order(0, 150, -1), -1);
        is("n 49", x.order(0, 149, -1), 0);
        is("account 6", x.order(0, 600, -1), -1);
        is("an -1", x.order(0, -1, -1), -1);
        is("k -2 of nothing", x.order(3, 0, -2), -1);
        is("in thought", x.count(1), 0);
        row(x, 0);
        is("no sales", x.order(0, 0, -1), 0);
        is("no first", x.order(0, 0, 0), -2);
        orderOfScarceCells();
    }

    /** A two that finds no cell is a sale of the row all the same; told in an order, it ends that order. */
    private static void orderOfScarceCells() {
        BeesBooks x = full(1);
        row(x, 0, 1, 1, 2, 6);
        is("no cell is empty", x.order(0, 200, -1), 0);
        is("the first by places", x.order(0, 200, 0), 0);
        is("both have places", x.order(0, 200, 1), 1);
        is("no third", x.order(0, 200, 2), -2);
        x.fly(200);
        is("the greater sale is told first", x.order(0, 200, -1), 6);
        is("its place", x.order(0, 200, 0), 1);
        is("the one that finds no cell", x.order(0, 200, 1), 0);
        is("no third of two", x.order(0, 200, 2), -2);
        is("as the row says", x.order(0, 100, 0), 0);
        is("one of them is written", x.sales(0, -1), 1);
        row(x, 0, 1, 1, 2, 0, 2, 6);
        is("behind a two that is none", x.order(0, 200, -1), 0);
        is("no second behind it", x.order(0, 200, 1), -2);
        row(x, 0, 1, 1, 1, 2, 1, 3, 1, 4, 1, 5, 2, 6);
        is("the sixth stays behind", x.order(0, 200, -1), 0);
        is("the fifth is told first", x.order(0, 100, 0), 4);
        is("then the first", x.order(0, 100, 1), 0);
        is("no sixth", x.order(0, 100, 5), -2);
        x.fly(300);
        x.fly(400);
        is("three cells", x.order(0, 100, -1), 3 + 4 + 5);
        is("the three first", x.order(0, 100, 0), 2);
        is("the three second", x.order(0, 100, 1), 3);
        is("the three third", x.order(0, 100, 2), 4);
        is("then those without a cell", x.order(0, 100, 3), 0);
        is("and the last", x.order(0, 100, 4), 1);
        is("a winter of all", x.order(0, 149, -1), 0);
        x.fly(0);
        x.fly(100);
        x.fly(480);
        is("six cells", x.order(0, 200, -1), 6);
        is("in thought only", x.count(1), 49 - 6);
    }

    private static void promise16() {
        BeesBooks x = filledByNumbers(3, 15, 25);
        // 0 (3 of account 0) and 1 (5 of 1): 0 becomes 1's; 1 and 2 (5 of 2): the greater cell becomes 1's.
        is("how many", x.heat(-1), 2);
        is("account 0", x.heat(0), 0);
        is("account 1", x.heat(1), 13);
        is("account 2", x.heat(2), 0);
        is("account 6", x.heat(6), -1);
        is("account -2", x.heat(-2), -1);
        is("in thought", x.of(0, 3), 3);
        is("like accounts", filledByNumbers(1, 2, 3).heat(-1), 0);
        is("a full comb is sealed", full(1).heat(-1), 0);
        // 0 is sealed by 1 and 7: it stays, though 1 is of another account.
        BeesBooks y = filledByNumbers(1, 12, 12, 12, 12, 12, 12, 12);
        is("nothing turns", y.heat(-1), 0);
        is("what is sealed stays", y.heat(0), 1);
        y.fly(70);
        is("unsealed it turns", y.heat(0), 0);
        is("no accounts", new BeesBooks().heat(-1), 0);
    }

    private static void promise17() {
        BeesBooks x = filledByNumbers(1, 12, 3, 14, 5, 16, 1, 12, 3);
        is("about 0 by 0", x.swarm(0, -1), 1);
        is("about 0 by 1: 0, 1, 7", x.swarm(1, -1), 3);
        is("account 1 then", x.swarm(1, 1), 10);
        is("account 0 then", x.swarm(1, 0), 12);
        is("about 0 by 2: 2, 8 too", x.swarm(2, -1), 5);
        is("about 0 by 3: 3 too", x.swarm(3, -1), 6);
        is("about 48 by 3", x.swarm(483, -1), 0);
        is("m 4", x.swarm(4, -1), -1);
        is("cell 49", x.swarm(490, -1), -1);
        is("-1", x.swarm(-1, -1), -1);
        is("account 6", x.swarm(0, 6), -1);
        is("account -2", x.swarm(0, -2), -1);
        is("in thought", x.count(1), 9);
        is("all about 24", full(1).swarm(243, -1), 37);
        is("a full comb then", full(1).swarm(243, 0), 12);
    }

    private static void promise18() {
        BeesBooks x = filledByNumbers(1, 12, 3, 14);
        is("account 0 loses nothing", x.least(0, 1, 0), 0);
        is("about 1", x.least(0, 1, 1), 1);
        is("by 0", x.least(0, 1, 2), 0);
        is("account 1: 0", x.least(1, 1, 1), 0);
        is("two: 0 and 1 about 0, 7 (by 1)", x.least(1, 2, 0), 2);
        is("its cell", x.least(1, 2, 1), 0);
        is("its m", x.least(1, 2, 2), 1);
        is("three", x.least(0, 3, 0), 3);
        is("three: 1, 2, 3 about 2", x.least(0, 3, 1), 2);
        is("four", x.least(0, 4, 0), 4);
        is("five: none", x.least(0, 5, 0), -2);
        is("five: no cell", x.least(0, 5, 1), -2);
        is("five: no m", x.least(0, 5, 2), -2);
        is("x 0", x.least(0, 0, 0), -1);
        is("x 38", x.least(0, 38, 0), -1);
        is("what 3", x.least(0, 1, 3), -1);
        is("what -1", x.least(0, 1, -1), -1);
        is("account 6", x.least(6, 1, 0), -1);
        is("BAD ahead of NOT", x.least(0, 37, 3), -1);
        is("the only 37", full(2).least(0, 37, 1), 24);
        is("their m", full(2).least(0, 37, 2), 3);
        is("their sum", full(2).least(0, 37, 0), 74);
        is("account 1 has nothing", full(2).least(1, 8, 2), 2);
        is("account 1's first", full(2).least(1, 8, 1), 1);
        is("in thought", x.count(1), 4);
    }

    private static void promise19() {
        BeesBooks x = new BeesBooks();
        // Heard 3: the six weigh 1331 (3), 121 (1, 2), 11 (5, 6), 1 (4), together 1596.
        is("dance(3, 3, 0)", x.dance(3, 3, 0), 1331);
        is("dance(3, 3, 1)", x.dance(3, 3, 1), 1596);
        is("dance(3, 1, 0)", x.dance(3, 1, 0), 121);
        is("dance(3, 4, 0)", x.dance(3, 4, 0), 1);
        // Heard 0: three at one bit (121), three at two (11): 11 of 36.
        is("dance(0, 4, 0)", x.dance(0, 4, 0), 11);
        is("dance(0, 4, 1)", x.dance(0, 4, 1), 36);
        is("h 8", x.dance(8, 1, 0), BAD_LONG);
        is("h -1", x.dance(-1, 1, 0), BAD_LONG);
        is("j 0", x.dance(1, 0, 0), BAD_LONG);
        is("j 7", x.dance(1, 7, 0), BAD_LONG);
        is("part 2", x.dance(1, 1, 2), BAD_LONG);
        is("part -1", x.dance(1, 1, -1), BAD_LONG);
        x.mend(0, 2, 6);
        is("by chance alone", x.dance(5, 2, 0), 1);
        is("one of six", x.dance(5, 2, 1), 6);
        x.mend(0, 2, 0);
        is("surely", x.dance(5, 5, 0), 1);
        is("surely", x.dance(5, 5, 1), 1);
        is("surely not", x.dance(5, 4, 0), 0);
        is("surely not", x.dance(5, 4, 1), 1);
        is("none can be 0", x.dance(0, 4, 0), -2);
        is("none can be 7", x.dance(7, 4, 1), -2);
        is("BAD ahead of NOT", x.dance(0, 7, 0), BAD_LONG);
    }

    private static void promise20() {
        BeesBooks y = oddShelves();
        is("nothing", y.dances(0, 1, 0), BAD_LONG);
        is("a hive", y.dances(1, 1, 0), BAD_LONG);
        is("ints", y.dances(2, 1, 2), BAD_LONG);
        is("shelf 6", y.dances(6, 1, 0), BAD_LONG);
        is("shelf -1", y.dances(-1, 1, 0), BAD_LONG);
        BeesBooks x = new BeesBooks();
        row(x, 0, 3, 3, 3, 3, 4);
        // By four alone: 11^12, twice 11^8, twice 11^4, 1.
        long all = power11(12) + 2 * power11(8) + 2 * power11(4) + 1;
        is("four count", x.dances(0, 3, 0) * all, power11(12) * x.dances(0, 3, 1));
        is("likeliest", x.dances(0, 0, 2), 3);
        row(x, 0, 0);
        is("of like ones the least", x.dances(0, 99, 2), 1);
        row(x, 0, 6, 8, 1, 1);
        is("8 ends it", x.dances(0, 0, 2), 6);
        row(x, 0, 6, -1, 1, 1);
        is("-1 ends it", x.dances(0, 0, 2), 6);
        is("as dance()", x.dances(0, 6, 1), x.dance(6, 6, 1));
        row(x, 0);
        is("none heard", x.dances(0, 4, 0), 1);
        is("of six", x.dances(0, 4, 1), 6);
        is("none heard: the least", x.dances(0, 4, 2), 1);
        is("j 0", x.dances(0, 0, 0), BAD_LONG);
        is("j 7", x.dances(0, 7, 1), BAD_LONG);
        is("part 3", x.dances(0, 1, 3), BAD_LONG);
        is("part -1", x.dances(0, 1, -1), BAD_LONG);
        x.mend(0, 2, 0);
        row(x, 0, 2, 2, 3);
        is("none can be", x.dances(0, 2, 0), -2);
        is("none is likeliest", x.dances(0, 2, 2), -2);
        is("BAD ahead of NOT", x.dances(0, 0, 0), BAD_LONG);
    }

    private static long power11(int times) {
        long power = 1;
        for (int i = 0; i < times; i++) {
            power *= 11;
        }
        return power;
    }

    private static void promise21() {
        BeesBooks x = new BeesBooks();
        for (int j = 1; j <= 6; j++) {
            is("right", x.right(j, 0), 1331);
            is("right", x.right(j, 1), 1728);
        }
        is("j 0", x.right(0, 0), BAD_LONG);
        is("j 7", x.right(7, 0), BAD_LONG);
        is("part 2", x.right(1, 2), BAD_LONG);
        is("part -1", x.right(1, -1), BAD_LONG);
        x.mend(0, 2, 6);
        is("an eighth", x.right(1, 0), 1);
        is("an eighth", x.right(1, 1), 8);
        x.mend(0, 2, 0);
        is("surely", x.right(1, 1), 1);
    }

    private static void promise22() {
        bytesRefusals((x, shelf) -> x.read(shelf, 0, 0, 0));
        // Cells 0 .. 5 hold 1 2 3 1 2 6; account 0 has 0, 3 and 5, account 1 the rest.
        BeesBooks x = filledByNumbers(1, 12, 13, 1, 12, 6);
        row(x, 0, 0, 1, 2, 3);
        // What account 0 has that is read: the 6. Sets of 1 2 3 1 that make 3: {0,1}, {1,3}, {2}.
        is("ways", x.read(0, 0, 9, 0), 3);
        is("none is sure", x.read(0, 0, 9, 1), 0);
        is("the least", x.read(0, 0, 9, 2), 3);
        is("all", x.read(0, 0, 13, 0), 1);
        is("all are sure", x.read(0, 0, 13, 1), 15);
        is("none", x.read(0, 0, 6, 0), 1);
        is("none is sure", x.read(0, 0, 6, 1), 0);
        is("the empty set", x.read(0, 0, 6, 2), 0);
        is("6 of 7: without either 1", x.read(0, 0, 12, 0), 2);
        is("1 and 2 are sure", x.read(0, 0, 12, 1), 6);
        is("the least", x.read(0, 0, 12, 2), 7);
        is("too little", x.read(0, 0, 5, 0), 0);
        is("no set: none is sure", x.read(0, 0, 5, 1), 0);
        is("no least set", x.read(0, 0, 5, 2), -2);
        is("account 1: 2 is read", x.read(0, 1, 2, 0), 1);
        is("account 2", x.read(0, 2, 7, 2), 15);
        is("x 300", x.read(0, 0, 300, 0), -1);
        is("x -1", x.read(0, 0, -1, 0), -1);
        is("x 299", x.read(0, 0, 299, 0), 0);
        is("what 3", x.read(0, 0, 0, 3), -1);
        is("what -1", x.read(0, 0, 0, -1), -1);
        is("account 6", x.read(0, 6, 0, 0), -1);
        is("x 300 of nothing", x.read(3, 0, 300, 0), -1);
        row(x, 0, 0, 1, 0, 2);
        is("came before", x.read(0, 1, 10, 0), 0);
        is("came before", x.read(0, 1, 8, 2), 3);
        row(x, 0, 0, 6, 1);
        is("holds nothing", x.read(0, 0, 8, 2), 1);
        row(x, 0, 0, 49, 1);
        is("is none", x.read(0, 0, 8, 2), 1);
        row(x, 0, -1, 1);
        is("is none", x.read(0, 0, 8, 2), 0);
        BeesBooks y = full(1);
        row(y, 0, 0, 1, 2, 3, 4, 5, 6, 7, 8, 9, 10, 11);
        is("ten at most", y.read(0, 0, 49, 2), 1023);
        is("five of ten", y.read(0, 0, 44, 0), 252);
        is("the least five", y.read(0, 0, 44, 2), 31);
        is("nobody's", y.read(0, 1, 1, 0), 10);
        row(y, 0);
        is("none is unread", y.read(0, 0, 49, 0), 1);
        is("none is unread", y.read(0, 0, 48, 0), 0);
    }

    private static void promise23() {
        bytesRefusals((x, shelf) -> x.open(shelf, 0));
        // Cells 0 .. 4 hold 1 2 3 1 1; account 0 has 0 and 1.
        BeesBooks x = filledByNumbers(1, 2, 13, 11, 21);
        row(x, 0, 0, 1, 2, 3, 4);
        // 3 is made by {0,1}, {1,3}, {1,4}, {2}, {0,3,4}: 0 and 1 leave one; no cell alone does.
        is("0 and 1", x.open(0, 0), 3);
        // Account 1 has 2 and 3; 4 is made by {0,2}, {2,3}, {2,4}, {0,1,3}, {0,1,4}, {1,3,4}: not 1, but 3.
        is("1 and 3", x.open(0, 1), 10);
        is("account 3 has nothing", x.open(0, 3), 0);
        row(x, 0, 0, 3);
        is("0 or 3: of like ones the least", x.open(0, 0), 1);
        is("either tells", x.open(0, 1), 1);
        row(x, 0, 2);
        is("one alone", x.open(0, 0), 0);
        row(x, 0);
        is("none", x.open(0, 0), 0);
        row(x, 0, 3, 4, 3);
        is("account 0 has none of them", x.open(0, 0), 0);
        is("account 2", x.open(0, 2), 1);
        is("account 6", x.open(0, 6), -1);
        is("account -1", x.open(0, -1), -1);
        is("account 6 of nothing", x.open(3, 6), -1);
        BeesBooks y = full(1);
        row(y, 0, 0, 1, 2, 3, 4, 5, 6, 7, 8, 9, 10);
        is("all are its own", y.open(0, 0), 0);
        y.fly(0);
        y.sale(11);
        is("one is another's", y.open(0, 0), 1);
        is("one is its own", y.open(0, 1), 1);
    }

    private static void promise24() {
        BeesBooks x = new BeesBooks();
        is("a half, thrice", x.pass(3, 0, 0), 1);
        is("a half, thrice", x.pass(3, 0, 1), 8);
        is("on the mean", x.pass(3, 1, 0), 3);
        is("on the mean", x.pass(3, 1, 1), 2);
        is("whole", x.pass(4, 1, 1), 1);
        is("none", x.pass(0, 0, 0), 1);
        is("none", x.pass(0, 0, 1), 1);
        is("none on the mean", x.pass(0, 1, 0), 0);
        is("none on the mean", x.pass(0, 1, 1), 1);
        is("n 9", x.pass(9, 0, 0), BAD_LONG);
        is("n -1", x.pass(-1, 0, 0), BAD_LONG);
        is("what 2", x.pass(1, 2, 0), BAD_LONG);
        is("what -1", x.pass(1, -1, 0), BAD_LONG);
        is("part 2", x.pass(1, 0, 2), BAD_LONG);
        is("part -1", x.pass(1, 0, -1), BAD_LONG);
        x.mend(0, 1, 1);
        is("11^8", x.pass(8, 0, 0), power11(8));
        is("12^8", x.pass(8, 0, 1), 429981696);
        is("88 of 12", x.pass(8, 1, 0), 22);
        x.mend(0, 1, 12);
        is("none passes", x.pass(8, 0, 0), 0);
        is("none passes", x.pass(8, 0, 1), 1);
        is("of none all", x.pass(0, 0, 0), 1);
        x.mend(0, 1, 0);
        is("all pass", x.pass(8, 0, 1), 1);
        is("all pass", x.pass(8, 1, 0), 8);
    }

    private static void promise25() {
        BeesBooks x = new BeesBooks();
        // Halves: 12, 6, 3, 1 1/2, 3/4 .. of twelve.
        is("12", x.mostFalse(12), 0);
        is("7", x.mostFalse(7), 0);
        is("6", x.mostFalse(6), 1);
        is("3", x.mostFalse(3), 2);
        is("2", x.mostFalse(2), 2);
        is("1", x.mostFalse(1), 3);
        is("0", x.mostFalse(0), 8);
        is("13", x.mostFalse(13), -1);
        is("-1", x.mostFalse(-1), -1);
        x.mend(0, 1, 12);
        is("none passes", x.mostFalse(1), 0);
        is("0 of twelve is always", x.mostFalse(0), 8);
        x.mend(0, 1, 0);
        is("all pass", x.mostFalse(12), 8);
        x.mend(0, 1, 1);
        // (11/12)^4 is .706, (11/12)^5 .647; (11/12)^8 is .4985.
        is("8 of twelve", x.mostFalse(8), 4);
        is("6 of twelve", x.mostFalse(6), 7);
        is("5 of twelve", x.mostFalse(5), 8);
    }

    private static void promise26() {
        bytesRefusals((x, shelf) -> x.judge(shelf));
        BeesBooks x = filledByNumbers(1);
        row(x, 0, 0, 1, 1, 5, 6, 2, 3, 3, 3);
        is("all so", x.judge(0), -2);
        is("in thought", x.count(1), 1);
        row(x, 0, 0, 1, 1, 5, 6, 3, 3, 3, 3);
        is("another cell", x.judge(0), 1);
        row(x, 0, 0, 1, 0);
        is("a full cell", x.judge(0), 0);
        row(x, 0, 0, 1, 1, 6, 1, 2);
        is("no account", x.judge(0), 1);
        row(x, 0, 0, 1, 1, 0, 7, 2);
        is("no sum", x.judge(0), 1);
        row(x, 0, 0, 1, 1, 0, 1);
        is("the end lacks", x.judge(0), 1);
        row(x, 0, 0, 1, 1, 0);
        is("the end lacks", x.judge(0), 1);
        row(x, 0, 0, 1, 1, 0, 1, 49);
        is("no cell", x.judge(0), 1);
        row(x, 0, 0, 1, 1, 0, 1, -2);
        is("no cell", x.judge(0), 1);
        row(x, 0);
        is("none", x.judge(0), -2);
        BeesBooks y = full(1);
        row(y, 0, 0, 1, -2);
        is("no cell is empty", y.judge(0), 0);
    }

    private static void promise27() {
        BeesBooks x = new BeesBooks();
        is("no accounts", x.drawn(1, 100, 0), -5);
        is("BAD ahead of STATE", x.drawn(1, 99, 0), -1);
        x.account(24);
        for (int seed = -3; seed <= 3; seed++) {
            int z = (seed * 1103515245 + 12345) * 1103515245 + 12345;
            is("one sale by " + seed, x.drawn(seed, 100, 0), 1 + (z >>> 8) % 6);
            is("none is lost", x.drawn(seed, 100, 1), 0);
            is("and it is eaten", x.drawn(seed, 101, 0), 0);
        }
        is("eleven are lost", x.drawn(9, 6000, 1), 11);
        is("all are eaten", x.drawn(9, 6049, 0), 0);
        is("n 0", x.drawn(9, 49, 0), -1);
        is("n 61", x.drawn(9, 6100, 0), -1);
        is("w 50", x.drawn(9, 150, 0), -1);
        is("nw -100", x.drawn(9, -100, 0), -1);
        is("what 2", x.drawn(9, 100, 2), -1);
        is("what -1", x.drawn(9, 100, -1), -1);
        is("in thought", x.count(1), 0);
        is("no sale is led", x.led(0), 0);
        is("a full comb loses all", full(2).drawn(9, 6000, 1), 60);
        is("a full comb stays", full(2).drawn(9, 6000, 0), 98);
        is("from the comb as it is", full(2).drawn(9, 101, 0), 96);
    }

    private static void promise28() {
        BeesBooks x = new BeesBooks();
        is("no account", x.sale(1), -1);
        x.account(24);
        is("sum 0", x.sale(0), -1);
        is("sum 7", x.sale(7), -1);
        is("account 1", x.sale(11), -1);
        is("-1", x.sale(-1), -1);
        is("nothing is led", x.led(0), 0);
        is("the door", x.sale(6), 24);
        is("the least beside it", x.sale(5), 17);
        is("whose", x.cell(24, 0), 0);
        is("sum", x.cell(17, 1), 5);
        is("led sales", x.led(0), 2);
        is("led sums", x.led(1), 11);
        BeesBooks y = full(1);
        is("full", y.sale(1), -3);
        is("BAD ahead of FULL", y.sale(7), -1);
        is("a full sale is not led", y.led(0), 49);
    }

    private static void promise29() {
        BeesBooks x = filledByNumbers(5, 15, 2, 14, 2, 6);
        is("n 50", x.eat(50), -1);
        is("n -1", x.eat(-1), -1);
        is("no year yet", x.led(5), 0);
        is("one", x.eat(1), 1);
        is("of like ones the greatest cell", x.cell(4, 0), -2);
        is("the other stays", x.cell(2, 1), 2);
        is("two", x.eat(2), 2);
        is("4 is gone", x.cell(3, 0), -2);
        is("as many as there are", x.eat(49), 3);
        is("none", x.eat(3), 0);
        is("of none", x.eat(0), 0);
        is("led", x.led(2), 6);
        is("years", x.led(5), 5);
        is("sales stay led", x.led(0), 6);
        is("count(1)", x.count(1), 0);
    }

    private static void promise30() {
        BeesBooks x = filledByNumbers(3, 15, 25);
        is("two turn", x.run(), 2);
        is("whose 0", x.cell(0, 0), 1);
        is("whose 2", x.cell(2, 0), 1);
        is("sums stay", x.cell(0, 1), 3);
        is("none turns", x.run(), 0);
        is("led", x.led(3), 2);
        is("balance", x.of(1, 3), 13);
        is("an empty comb", new BeesBooks().run(), 0);
    }

    private static void promise31() {
        BeesBooks x = filledByNumbers(1, 12, 3, 14, 5, 16, 1, 12, 3);
        is("m 4", x.fly(4), -1);
        is("cell 49", x.fly(490), -1);
        is("-1", x.fly(-1), -1);
        is("0, 1, 7", x.fly(1), 3);
        is("7 is empty", x.cell(7, 0), -2);
        is("8 is not", x.cell(8, 0), 0);
        is("none", x.fly(1), 0);
        is("2, 8", x.fly(2), 2);
        is("led", x.led(4), 5);
        is("count(1)", x.count(1), 4);
        is("the last", x.fly(483), 0);
    }

    private static void promise32() {
        BeesBooks x = filledByNumbers(3, 15, 25, 6);
        x.run();
        x.eat(1);
        x.fly(10);
        is("sales", x.led(0), 4);
        is("sums", x.led(1), 19);
        is("eaten", x.led(2), 1);
        is("turned", x.led(3), 3);
        is("swarmed", x.led(4), 1);
        is("years", x.led(5), 1);
        is("6", x.led(6), -1);
        is("-1", x.led(-1), -1);
    }

    private static void promise33And34() {
        BeesBooks x = filledByNumbers(1, 12);
        is("none", x.back(), -5);
        is("image", x.image(), 2);
        x.sale(6);
        x.eat(2);
        x.mend(0, 1, 3);
        x.account(9);
        is("back", x.back(), 2);
        is("led sums", x.led(1), 3);
        is("led eaten", x.led(2), 0);
        is("led years", x.led(5), 0);
        is("the comb", x.cell(1, 1), 2);
        is("count(1)", x.count(1), 2);
        is("guards stay", x.of(0, 1), 3);
        is("the law stays", x.where(1), 2);
        x.fly(0);
        is("it is kept", x.back(), 2);
        is("the comb again", x.cell(0, 1), 1);
        is("what is sealed is known again", x.sale(1), 2);
        is("a later image", x.image(), 3);
        x.eat(9);
        is("back to it", x.back(), 3);
        is("count(1)", x.count(1), 3);
        BeesBooks y = new BeesBooks();
        is("of an empty comb", y.image(), 0);
        y.account(0);
        y.sale(1);
        is("back", y.back(), 0);
        is("empty again", y.count(1), 0);
        is("accounts stay", y.count(0), 1);
    }

    private static void promise35And36() {
        BeesBooks x = new BeesBooks();
        x.account(5);
        is("an account is no change", x.undo(), -5);
        x.mend(0, 0, 5);
        is("the same number is none", x.undo(), -5);
        x.mend(0, 0, 6);
        x.mend(0, 1, 7);
        x.mend(0, 2, 2);
        is("count(4)", x.count(4), 3);
        is("flip", x.undo(), 2);
        is("flip", x.of(0, 2), 1);
        is("guards", x.undo(), 1);
        is("door", x.undo(), 0);
        is("door", x.of(0, 0), 5);
        is("no more", x.undo(), -5);
        is("again", x.redo(), 2);
        is("door", x.of(0, 0), 6);
        x.mend(0, 1, 6);
        x.sale(1);
        x.eat(1);
        x.account(1);
        is("neither the same number nor a deed ends it", x.redo(), 1);
        is("guards", x.of(0, 1), 7);
        x.mend(0, 1, 8);
        is("another came", x.redo(), -5);
        is("count(4)", x.count(4), 3);
        is("undo", x.undo(), 2);
        is("what it was", x.of(0, 1), 7);
        fortyAreKept();
    }

    private static final int TOLD = 46;

    /** By turns a door, the guards, the other door, the flip; never the number that is there. */
    private static int[] change(int i) {
        int[][] things = {{0, 0}, {0, 1}, {1, 0}, {0, 2}};
        int[] thing = things[i % 4];
        return new int[] {thing[0], thing[1], 1 + (thing[1] == 0 ? i : 5 * i / 4 % (thing[1] == 1 ? 11 : 6))};
    }

    private static void fortyAreKept() {
        BeesBooks x = new BeesBooks();
        x.account(0);
        x.account(0);
        int[] before = new int[TOLD];
        int changes = 0;
        for (int i = 0; i < TOLD; i++) {
            int[] change = change(i);
            before[i] = x.mend(change[0], change[1], change[2]);
            changes += before[i] == change[2] ? 0 : 1;
        }
        is("each is a change", changes, TOLD);
        is("40 at most", x.count(4), 40);
        for (int i = TOLD - 1; i >= TOLD - 40; i--) {
            is("undo", x.undo(), i - (TOLD - 40));
            is("what it was", x.of(change(i)[0], change(i)[1]), before[i]);
        }
        is("no more", x.undo(), -5);
        for (int i = TOLD - 40; i < TOLD; i++) {
            is("redo", x.redo(), TOLD - 1 - i);
            is("what it became", x.of(change(i)[0], change(i)[1]), change(i)[2]);
        }
        is("no more", x.redo(), -5);
    }

    private static void promise37() {
        BeesBooks x = new BeesBooks();
        is("kind 8", x.body(8), -1);
        is("kind -1", x.body(-1), -1);
        for (int i = 0; i < 50; i++) {
            is("body", x.body(i % 8), i);
        }
        is("full", x.body(0), -3);
        is("BAD ahead of FULL", x.body(8), -1);
        is("count(5)", x.count(5), 50);
    }

    private static void acts(int kind, int number, int x, int[] answers, int[][] traces) {
        BeesBooks books = new BeesBooks();
        for (int i = 0; i <= number; i++) {
            books.body(kind);
        }
        for (int act = 0; act < 4; act++) {
            String call = "act " + act + " of kind " + kind;
            is(call, books.act(number, act, x), answers[act]);
            is(call + " ran", books.count(6), traces[act].length);
            for (int i = 0; i <= traces[act].length; i++) {
                is(call + " trace", books.trace(i), i < traces[act].length ? traces[act][i] : -1);
            }
        }
    }

    private static void promise38() {
        // x 10, number 3. Written by hand from the document's bodies.
        acts(0, 3, 10, new int[] {13, 26, 9, 24},
            new int[][] {{1}, {10, 1}, {11}, {2, 10, 1, 11}});
        acts(1, 3, 10, new int[] {16, 32, 9, 30},
            new int[][] {{20, 1}, {10, 20, 1}, {11}, {2, 10, 20, 1, 11}});
        acts(2, 3, 10, new int[] {13, -26, 9, -28},
            new int[][] {{1}, {30, 10, 1}, {11}, {2, 30, 10, 1, 11}});
        acts(3, 3, 10, new int[] {13, -28, 27, -34},
            new int[][] {{1}, {41, 30, 10, 1}, {40, 11}, {2, 41, 30, 10, 1, 40, 11}});
        acts(4, 3, 10, new int[] {16, 32, 1, 38},
            new int[][] {{20, 1}, {10, 20, 1}, {50, 11, 20, 1}, {2, 10, 20, 1, 50, 11, 20, 1}});
        acts(5, 3, 10, new int[] {13, -28, 27, -34 ^ 5},
            new int[][] {{1}, {41, 30, 10, 1}, {40, 11}, {60, 2, 41, 30, 10, 1, 40, 11}});
        acts(6, 3, 10, new int[] {26, 52, 9, 50},
            new int[][] {{70, 1}, {10, 70, 1}, {11}, {2, 10, 70, 1, 11}});
        acts(7, 3, 10, new int[] {16, 25, 1, 30},
            new int[][] {{20, 1}, {80, 10, 20, 1, 50, 11, 20, 1}, {50, 11, 20, 1},
                {81, 2, 80, 10, 20, 1, 50, 11, 20, 1, 50, 11, 20, 1}});
        BeesBooks x = new BeesBooks();
        x.body(0);
        x.body(6);
        is("wraps", x.act(1, 0, Integer.MAX_VALUE), 0);
        is("wraps", x.act(1, 1, 1 << 29), (int) (((1L << 29) + 1) * 4));
        is("ran", x.count(6), 3);
        is("no body", x.act(2, 0, 5), 0);
        is("no trace then", x.count(6), 0);
        is("no trace then", x.trace(0), -1);
        x.act(0, 3, 5);
        is("no act 4", x.act(0, 4, 5), 0);
        is("no trace then", x.count(6), 0);
        is("no act -1", x.act(0, -1, 5), 0);
        is("no body -1", x.act(-1, 0, 5), 0);
    }

    private static void promise39() {
        BeesBooks x = new BeesBooks();
        is("none yet", x.trace(0), -1);
        x.body(7);
        x.act(0, 3, 1);
        is("the first", x.trace(0), 81);
        is("the last", x.trace(13), 1);
        is("behind it", x.trace(14), -1);
        is("-1", x.trace(-1), -1);
        is("24", x.trace(24), -1);
        x.act(0, 0, 1);
        is("of the latest alone", x.trace(2), -1);
        is("its first", x.trace(0), 20);
    }

    private static void promise40() {
        BeesBooks x = new BeesBooks();
        x.body(3);
        is("no body 1", x.keep(0, 1), -1);
        is("-2", x.keep(0, -2), -1);
        is("shelf 6", x.keep(6, 0), -1);
        is("shelf -1", x.keep(-1, 0), -1);
        is("a hive", x.keep(0, 0), 1);
        is("its kind", x.taken(0, 3), 3);
        is("nothing", x.keep(0, -1), 1);
        is("nothing there", x.taken(0, 3), -11);
        row(x, 0, 1, 2);
        is("a hive for a row", x.keep(0, 0), 1);
        is("no row", x.put(0, 0, 1), -12);
        is("what is refused", x.keep(0, 7), -1);
        is("changes nothing", x.taken(0, 0), 3);
    }

    private static void promise41() {
        BeesBooks x = new BeesBooks();
        is("shelf 6", x.row(6, 0, 1), -1);
        is("shelf -1", x.row(-1, 0, 1), -1);
        is("sort 5", x.row(0, 5, 1), -1);
        is("sort -1", x.row(0, -1, 1), -1);
        is("n 61", x.row(0, 0, 61), -1);
        is("n -1", x.row(0, 0, -1), -14);
        is("BAD ahead of -14", x.row(0, 5, -1), -1);
        is("nothing is there yet", x.put(0, 0, 0), -11);
        is("60", x.row(0, LONGS, 60), 1);
        is("the last", x.put(0, 59, 7), 1);
        is("behind it", x.put(0, 60, 7), -13);
        is("0", x.row(1, BOOLEANS, 0), 1);
        is("no first", x.element(1, 0), BAD_LONG);
        is("anew", x.row(0, LONGS, 60), 1);
        is("0 at first", x.element(0, 59), 0);
        is("what is refused", x.row(0, LONGS, -1), -14);
        is("changes nothing", x.element(0, 59), 0);
    }

    private static void promise42() {
        BeesBooks x = new BeesBooks();
        x.body(0);
        x.keep(1, 0);
        is("shelf 6", x.put(6, 0, 1), -1);
        is("shelf -1", x.put(-1, 0, 1), -1);
        is("nothing", x.put(0, 0, 1), -11);
        is("a hive", x.put(1, 0, 1), -12);
        x.row(2, INTS, 2);
        is("place 2", x.put(2, 2, 1), -13);
        is("place -1", x.put(2, -1, 1), -13);
        is("an int", x.put(2, 1, 1L << 32 | 0x80000000L), 1);
        is("its lowest bits", x.element(2, 1), Integer.MIN_VALUE);
        x.row(2, SHORTS, 1);
        x.put(2, 0, 0x1ffffL);
        is("a short", x.element(2, 0), -1);
        x.row(2, BYTES, 1);
        x.put(2, 0, 0x180L);
        is("a byte", x.element(2, 0), -128);
        x.row(2, LONGS, 1);
        x.put(2, 0, Long.MIN_VALUE + 1);
        is("a long", x.element(2, 0), Long.MIN_VALUE + 1);
        x.row(2, BOOLEANS, 1);
        x.put(2, 0, 1L << 40);
        is("a boolean", x.element(2, 0), 1);
        x.put(2, 0, 0);
        is("a boolean", x.element(2, 0), 0);
    }

    private static void promise43() {
        BeesBooks x = new BeesBooks();
        x.body(0);
        x.keep(1, 0);
        row(x, 2, 5, -6);
        is("0", x.element(2, 0), 5);
        is("1", x.element(2, 1), -6);
        is("2", x.element(2, 2), BAD_LONG);
        is("-1", x.element(2, -1), BAD_LONG);
        is("nothing", x.element(0, 0), BAD_LONG);
        is("a hive", x.element(1, 0), BAD_LONG);
        is("shelf 6", x.element(6, 0), BAD_LONG);
        is("shelf -1", x.element(-1, 0), BAD_LONG);
    }

    private static void promise44() {
        BeesBooks x = new BeesBooks();
        x.body(0);
        row(x, 0, 1, 2, 3, 4, 5);
        row(x, 1, 9, 9, 9);
        x.keep(3, 0);
        x.row(4, SHORTS, 5);
        is("three", x.shift(0, 1, 1, 0, 3), 3);
        is("element", x.element(1, 2), 4);
        is("to the right in itself", x.shift(0, 0, 0, 1, 4), 4);
        is("as they were before", x.element(0, 4), 4);
        is("to the left in itself", x.shift(0, 1, 0, 0, 4), 4);
        is("as they were before", x.element(0, 3), 4);
        is("the last stays", x.element(0, 4), 4);
        is("none", x.shift(0, 5, 1, 3, 0), 0);
        is("none behind the end", x.shift(0, 6, 1, 3, 0), -13);
        is("too many to take", x.shift(0, 3, 1, 0, 3), -13);
        is("too many to lay", x.shift(0, 0, 1, 1, 3), -13);
        is("from -1", x.shift(0, -1, 1, 0, 1), -13);
        is("to -1", x.shift(0, 0, 1, -1, 1), -13);
        is("n -1", x.shift(0, 0, 1, 0, -1), -13);
        is("wraps", x.shift(0, 1, 1, 1, Integer.MAX_VALUE), -13);
        is("from nothing", x.shift(2, 0, 0, 0, 1), -11);
        is("to nothing", x.shift(0, 0, 2, 0, 1), -11);
        is("a hive to nothing", x.shift(3, 0, 2, 0, 1), -11);
        is("a hive", x.shift(3, 0, 0, 0, 1), -12);
        is("to a hive", x.shift(0, 0, 3, 0, 1), -12);
        is("a hive to itself", x.shift(3, 0, 3, 0, 1), -12);
        is("unlike sorts", x.shift(0, 0, 4, 0, 1), -12);
        is("unlike sorts ahead of places", x.shift(0, 9, 4, 0, 1), -12);
        is("shelf 6", x.shift(6, 0, 0, 0, 1), -1);
        is("other 6", x.shift(2, 0, 6, 0, 1), -1);
        is("other -1", x.shift(0, 0, -1, 0, 1), -1);
        is("what is refused changes nothing", x.element(1, 0), 2);
    }

    private static void promise45() {
        BeesBooks x = new BeesBooks();
        int[] above = {-1, 0, 0, 2, 1, 3, 0, 4};
        for (int kind = 0; kind < 8; kind++) {
            x.body(kind);
            x.keep(0, kind);
            for (int k = 0; k < 8; k++) {
                boolean under = false;
                for (int at = kind; at >= 0; at = above[at]) {
                    under |= at == k;
                }
                is("kind " + kind + " for " + k, x.taken(0, k), under ? kind : -12);
            }
        }
        row(x, 1, 1);
        is("a row", x.taken(1, 0), -12);
        is("nothing", x.taken(2, 0), -11);
        is("kind 8", x.taken(2, 8), -1);
        is("kind -1", x.taken(2, -1), -1);
        is("shelf 6", x.taken(6, 0), -1);
        is("shelf -1", x.taken(-1, 0), -1);
    }

    private static void promise46() {
        BeesBooks x = filledByNumbers(1, 2, 3, 4, 5, 6, 1, 2, 3);
        is("accounts", x.count(0), 6);
        is("cells", x.count(1), 9);
        is("sealed: 0 and 1", x.count(2), 2);
        is("tape", x.count(3), 0);
        is("changes", x.count(4), 0);
        is("bodies", x.count(5), 0);
        is("ran", x.count(6), 0);
        x.feed('d');
        x.mend(0, 1, 1);
        x.body(7);
        x.act(0, 3, 0);
        is("tape", x.count(3), 1);
        is("changes", x.count(4), 1);
        x.undo();
        is("changes undone", x.count(4), 0);
        is("bodies", x.count(5), 1);
        is("ran", x.count(6), 14);
        is("7", x.count(7), -1);
        is("-1", x.count(-1), -1);
        is("a full comb", full(1).count(2), 49);
    }
}
