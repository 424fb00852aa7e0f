/** The boundaries of promises 1 to 7: a new object, accounts, what may be mended, cells and distances. */
public final class BoundaryCombTest extends Boundary {
    private BoundaryCombTest() {
    }

    public static void main(String[] args) throws IllegalAccessException {
        runAll(BoundaryCombTest.class, 1, 7);
    }

    // ---- promise 1: a new object

    static void promise1_constants() {
        is("BAD", BeesBooks.BAD, -1);
        is("NOT", BeesBooks.NOT, -2);
        is("FULL", BeesBooks.FULL, -3);
        is("STATE", BeesBooks.STATE, -5);
        is("VOID", BeesBooks.VOID, -2000000000);
    }

    static void promise1_allCellsHoldNothing() {
        BeesBooks x = new BeesBooks();
        for (int cell = 0; cell <= 48; cell++) {
            is("cell(" + cell + ", 0)", x.cell(cell, 0), NOT);
            is("cell(" + cell + ", 1)", x.cell(cell, 1), 0);
            is("cell(" + cell + ", 2)", x.cell(cell, 2), 0);
        }
    }

    static void promise1_allCountsAre0() {
        BeesBooks x = new BeesBooks();
        for (int what = 0; what <= 6; what++) {
            is("count(" + what + ")", x.count(what), 0);
        }
        for (int what = 0; what <= 5; what++) {
            is("led(" + what + ")", x.led(what), 0);
        }
    }

    static void promise1_guards6Flip1() {
        is("of(0, 1)", new BeesBooks().of(0, 1), 6);
        is("of(0, 2)", new BeesBooks().of(0, 2), 1);
    }

    static void promise1_noAccountBodyTraceImageOrChange() {
        BeesBooks x = new BeesBooks();
        is("of(0, 0)", x.of(0, 0), BAD);
        is("where(1)", x.where(1), BAD);
        is("act(0, 0, 5)", x.act(0, 0, 5), 0);
        is("keep(0, 0)", x.keep(0, 0), BAD);
        is("trace(0)", x.trace(0), BAD);
        is("back()", x.back(), STATE);
        is("undo()", x.undo(), STATE);
        is("redo()", x.redo(), STATE);
    }

    static void promise1_shelvesHoldNothing() {
        BeesBooks x = new BeesBooks();
        for (int shelf = 0; shelf <= 5; shelf++) {
            is("taken(" + shelf + ", 0)", x.taken(shelf, 0), NOTHING);
            is("put(" + shelf + ", 0, 1)", x.put(shelf, 0, 1), NOTHING);
        }
    }

    static void promise1_withoutATextTheNearestRanksFirst() {
        is("where(1)", Scenes.with(31).where(1), 31);
    }

    static void promise1_objectsShareNothing() {
        String before = Face.of(BeesBooks::new);
        Scenes.busy();
        isText("a new object beside a used one", Face.of(BeesBooks::new), before);
    }

    static void promise1_the512thCall() {
        BeesBooks x = Scenes.with(24);
        for (int call = 2; call <= 510; call++) {
            is("far(0, 48) by call " + call, x.far(0, 48), 9);
        }
        is("sale(1) by call 511", x.sale(1), 24);
        is("count(1) by call 512", x.count(1), 1);
    }

    // ---- promise 2: account

    static void promise2_door0() {
        BeesBooks x = new BeesBooks();
        is("account(0)", x.account(0), 0);
        is("of(0, 0)", x.of(0, 0), 0);
    }

    static void promise2_door48() {
        BeesBooks x = new BeesBooks();
        is("account(48)", x.account(48), 0);
        is("of(0, 0)", x.of(0, 0), 48);
    }

    static void promise2_doorBelow0IsBad() {
        refused(x -> x.account(-1), BAD);
        refused(x -> x.account(LEAST), BAD);
    }

    static void promise2_door49IsBad() {
        refused(x -> x.account(49), BAD);
        refused(x -> x.account(MOST), BAD);
    }

    static void promise2_sixAsTheyCome() {
        BeesBooks x = new BeesBooks();
        for (int i = 0; i < 6; i++) {
            is("account(" + (40 - i) + ")", x.account(40 - i), i);
            is("count(0)", x.count(0), i + 1);
        }
        for (int i = 0; i < 6; i++) {
            is("of(" + i + ", 0)", x.of(i, 0), 40 - i);
        }
    }

    static void promise2_doorsMayBeAlike() {
        BeesBooks x = new BeesBooks();
        is("account(7)", x.account(7), 0);
        is("account(7)", x.account(7), 1);
    }

    static void promise2_aSeventhIsFull() {
        refused(() -> Scenes.first(3, 1), x -> x.account(0), FULL);
    }

    static void promise2_badAheadOfFull() {
        refused(() -> Scenes.first(3, 1), x -> x.account(-1), BAD);
        refused(() -> Scenes.first(3, 1), x -> x.account(49), BAD);
    }

    static void promise2_noChangeToBeUndone() {
        BeesBooks x = Scenes.with(5);
        is("count(4)", x.count(4), 0);
        is("undo()", x.undo(), STATE);
    }

    static void promise2_changesUndoneStayWhenOneComes() {
        BeesBooks x = Scenes.with(5);
        x.mend(0, 1, 0);
        x.undo();
        x.account(6);
        is("redo()", x.redo(), 0);
    }

    // ---- promise 3: accounts

    private static BeesBooks doors(int... bytes) {
        BeesBooks x = new BeesBooks();
        Scenes.bytes(x, 0, bytes);
        return x;
    }

    static void promise3_n1() {
        BeesBooks x = doors(9, 8, 7);
        is("accounts(0, 1, 1)", x.accounts(0, 1, 1), 1);
        is("count(0)", x.count(0), 1);
        is("of(0, 0)", x.of(0, 0), 8);
    }

    static void promise3_n6() {
        BeesBooks x = doors(9, 8, 7, 6, 5, 4, 3);
        is("accounts(0, 0, 6)", x.accounts(0, 0, 6), 6);
        is("of(0, 0)", x.of(0, 0), 9);
        is("of(5, 0)", x.of(5, 0), 4);
    }

    static void promise3_n0IsBad() {
        refused(x -> x.accounts(2, 0, 0), BAD);
        refused(x -> x.accounts(2, 0, -1), BAD);
        refused(x -> x.accounts(2, 0, LEAST), BAD);
    }

    static void promise3_n7IsBad() {
        refused(x -> x.accounts(2, 0, 7), BAD);
        refused(x -> x.accounts(2, 0, MOST), BAD);
    }

    static void promise3_noSuchShelfIsBad() {
        refused(x -> x.accounts(-1, 0, 1), BAD);
        refused(x -> x.accounts(6, 0, 1), BAD);
        refused(x -> x.accounts(LEAST, 0, 1), BAD);
        refused(x -> x.accounts(MOST, 0, 1), BAD);
    }

    static void promise3_aMissingRow() {
        refused(x -> x.accounts(0, 0, 3), 0);
    }

    static void promise3_noRowOfBytes() {
        for (int shelf = 1; shelf <= 5; shelf++) {
            int odd = shelf;
            refused(Scenes::oddShelves, x -> x.accounts(odd, 0, 1), KIND);
        }
    }

    static void promise3_badAheadOfKind() {
        answers(Scenes::oddShelves, x -> x.accounts(1, 0, 0), BAD);
        answers(Scenes::oddShelves, x -> x.accounts(2, 0, 7), BAD);
    }

    static void promise3_badAheadOfAMissingRow() {
        answers(Scenes::oddShelves, x -> x.accounts(0, 0, 0), BAD);
        answers(Scenes::oddShelves, x -> x.accounts(0, 0, 7), BAD);
    }

    static void promise3_kindThoughFull() {
        BeesBooks x = Scenes.byNumbers();
        x.row(0, INTS, 3);
        is("accounts(0, 0, 1)", x.accounts(0, 0, 1), KIND);
    }

    static void promise3_theRowEnds() {
        answers(() -> doors(1, 2, 3), x -> x.accounts(0, 0, 6), 3);
        answers(() -> doors(1, 2, 3), x -> x.accounts(0, 1, 3), 2);
        answers(() -> doors(1, 2, 3), x -> x.accounts(0, 1, 2), 2);
    }

    static void promise3_anEmptyRow() {
        refused(() -> doors(), x -> x.accounts(0, 0, 1), 0);
    }

    static void promise3_theLastPlace() {
        answers(() -> doors(1, 2, 3), x -> x.accounts(0, 2, 6), 1);
    }

    static void promise3_aPlaceBehindTheRow() {
        refused(() -> doors(1, 2, 3), x -> x.accounts(0, 3, 1), 0);
        refused(() -> doors(1, 2, 3), x -> x.accounts(0, 60, 1), 0);
        refused(() -> doors(1, 2, 3), x -> x.accounts(0, MOST, 6), 0);
        refused(() -> doors(1, 2, 3), x -> x.accounts(0, MOST - 4, 6), 0);
    }

    static void promise3_aPlaceBelow0() {
        refused(() -> doors(1, 2, 3), x -> x.accounts(0, -1, 1), 0);
        refused(() -> doors(1, 2, 3), x -> x.accounts(0, -1, 6), 0);
        refused(() -> doors(1, 2, 3), x -> x.accounts(0, LEAST, 6), 0);
    }

    static void promise3_theLastOfSixtyPlaces() {
        BeesBooks x = new BeesBooks();
        x.row(0, BYTES, 60);
        x.put(0, 59, 44);
        is("accounts(0, 59, 2)", x.accounts(0, 59, 2), 1);
        is("of(0, 0)", x.of(0, 0), 44);
    }

    static void promise3_door0And48() {
        BeesBooks x = doors(0, 48);
        is("accounts(0, 0, 2)", x.accounts(0, 0, 2), 2);
        is("of(0, 0)", x.of(0, 0), 0);
        is("of(1, 0)", x.of(1, 0), 48);
    }

    static void promise3_49EndsIt() {
        BeesBooks x = doors(5, 49, 6);
        is("accounts(0, 0, 3)", x.accounts(0, 0, 3), 1);
        is("count(0)", x.count(0), 1);
        is("of(0, 0)", x.of(0, 0), 5);
        refused(() -> doors(49, 5), y -> y.accounts(0, 0, 2), 0);
    }

    static void promise3_below0EndsIt() {
        BeesBooks x = doors(5, 6, -1, 7);
        is("accounts(0, 0, 4)", x.accounts(0, 0, 4), 2);
        is("count(0)", x.count(0), 2);
        refused(() -> doors(-128, 5), y -> y.accounts(0, 0, 2), 0);
    }

    static void promise3_fullEndsIt() {
        BeesBooks x = doors(9, 8, 7, 6);
        for (int i = 0; i < 4; i++) {
            x.account(1);
        }
        is("accounts(0, 1, 3)", x.accounts(0, 1, 3), 2);
        is("of(5, 0)", x.of(5, 0), 7);
        is("count(0)", x.count(0), 6);
        is("accounts(0, 0, 1)", x.accounts(0, 0, 1), 0);
        is("count(0)", x.count(0), 6);
    }

    // ---- promise 4: mend

    private static BeesBooks two() {
        return Scenes.with(10, 20);
    }

    static void promise4_whatItWas() {
        BeesBooks x = two();
        is("mend(1, 0, 30)", x.mend(1, 0, 30), 20);
        is("mend(1, 0, 31)", x.mend(1, 0, 31), 30);
        is("of(1, 0)", x.of(1, 0), 31);
        is("of(0, 0)", x.of(0, 0), 10);
    }

    static void promise4_door0And48() {
        BeesBooks x = two();
        is("mend(0, 0, 0)", x.mend(0, 0, 0), 10);
        is("of(0, 0)", x.of(0, 0), 0);
        is("mend(0, 0, 48)", x.mend(0, 0, 48), 0);
        is("of(0, 0)", x.of(0, 0), 48);
    }

    static void promise4_doorBelow0IsBad() {
        refused(x -> x.mend(0, 0, -1), BAD);
        refused(x -> x.mend(0, 0, LEAST), BAD);
    }

    static void promise4_door49IsBad() {
        refused(x -> x.mend(0, 0, 49), BAD);
        refused(x -> x.mend(0, 0, MOST), BAD);
    }

    static void promise4_noSuchAccountIsBad() {
        refused(x -> x.mend(-1, 0, 1), BAD);
        refused(x -> x.mend(3, 0, 1), BAD);
        refused(x -> x.mend(6, 0, 1), BAD);
        refused(x -> x.mend(LEAST, 0, 1), BAD);
        refused(x -> x.mend(MOST, 0, 1), BAD);
        refused(BeesBooks::new, x -> x.mend(0, 0, 1), BAD);
    }

    static void promise4_theLastOfSixAccounts() {
        BeesBooks x = Scenes.byNumbers();
        is("mend(5, 0, 40)", x.mend(5, 0, 40), 5);
        is("of(5, 0)", x.of(5, 0), 40);
        is("of(0, 1)", x.of(0, 1), 6);
    }

    static void promise4_guards0And12() {
        BeesBooks x = two();
        is("mend(0, 1, 0)", x.mend(0, 1, 0), 6);
        is("of(0, 1)", x.of(0, 1), 0);
        is("mend(0, 1, 12)", x.mend(0, 1, 12), 0);
        is("of(0, 1)", x.of(0, 1), 12);
    }

    static void promise4_guardsBelow0AreBad() {
        refused(x -> x.mend(0, 1, -1), BAD);
        refused(x -> x.mend(0, 1, LEAST), BAD);
    }

    static void promise4_guards13AreBad() {
        refused(x -> x.mend(0, 1, 13), BAD);
        refused(x -> x.mend(0, 1, MOST), BAD);
    }

    static void promise4_flip0And6() {
        BeesBooks x = two();
        is("mend(0, 2, 0)", x.mend(0, 2, 0), 1);
        is("of(0, 2)", x.of(0, 2), 0);
        is("mend(0, 2, 6)", x.mend(0, 2, 6), 0);
        is("of(0, 2)", x.of(0, 2), 6);
    }

    static void promise4_flipBelow0IsBad() {
        refused(x -> x.mend(0, 2, -1), BAD);
        refused(x -> x.mend(0, 2, LEAST), BAD);
    }

    static void promise4_flip7IsBad() {
        refused(x -> x.mend(0, 2, 7), BAD);
        refused(x -> x.mend(0, 2, MOST), BAD);
    }

    static void promise4_guardsAndFlipHaveNumber0Alone() {
        for (int number : new int[] {-1, 1, 2, LEAST, MOST}) {
            refused(x -> x.mend(number, 1, 3), BAD);
            refused(x -> x.mend(number, 2, 3), BAD);
        }
    }

    static void promise4_guardsAndFlipWithoutAccounts() {
        BeesBooks x = new BeesBooks();
        is("mend(0, 1, 3)", x.mend(0, 1, 3), 6);
        is("mend(0, 2, 3)", x.mend(0, 2, 3), 1);
    }

    static void promise4_noSuchWhatIsBad() {
        refused(x -> x.mend(0, -1, 1), BAD);
        refused(x -> x.mend(0, 3, 1), BAD);
        refused(x -> x.mend(0, LEAST, 1), BAD);
        refused(x -> x.mend(0, MOST, 1), BAD);
    }

    static void promise4_theSameNumberChangesNothing() {
        answers(x -> x.mend(0, 0, 24), 24);
        changesNothing(x -> x.mend(0, 0, 24));
        changesNothing(x -> x.mend(0, 1, 4));
        changesNothing(x -> x.mend(0, 2, 1));
    }

    private static void answers(Call call, long want) {
        answers(Scenes::busy, call, want);
    }

    // ---- promise 5: of

    static void promise5_doorOfTheFirstAndTheLast() {
        BeesBooks x = Scenes.byNumbers();
        is("of(0, 0)", x.of(0, 0), 0);
        is("of(5, 0)", x.of(5, 0), 5);
    }

    static void promise5_noSuchAccountIsBad() {
        for (int number : new int[] {-1, 3, 6, LEAST, MOST}) {
            answers(x -> x.of(number, 0), BAD);
            answers(x -> x.of(number, 3), BAD);
        }
        is("of(0, 0)", new BeesBooks().of(0, 0), BAD);
        is("of(0, 3)", new BeesBooks().of(0, 3), BAD);
        is("of(6, 0)", Scenes.byNumbers().of(6, 0), BAD);
        is("of(6, 3)", Scenes.byNumbers().of(6, 3), BAD);
    }

    static void promise5_guardsAndFlipHaveNumber0Alone() {
        for (int number : new int[] {-1, 1, 2, LEAST, MOST}) {
            answers(x -> x.of(number, 1), BAD);
            answers(x -> x.of(number, 2), BAD);
        }
    }

    static void promise5_noSuchWhatIsBad() {
        for (int what : new int[] {-1, 4, LEAST, MOST}) {
            answers(x -> x.of(0, what), BAD);
        }
    }

    static void promise5_aBalanceOfNothing() {
        is("of(0, 3)", Scenes.with(3).of(0, 3), 0);
        is("of(1, 3)", Scenes.full(6).of(1, 3), 0);
    }

    static void promise5_aBalanceOfAllCells() {
        is("of(5, 3)", Scenes.full(56).of(5, 3), 49 * 6);
    }

    static void promise5_aBalanceOfTheFirstAndTheLastCell() {
        BeesBooks x = Scenes.laid(0, 12, 48, 13);
        is("of(1, 3)", x.of(1, 3), 5);
        is("of(0, 3)", x.of(0, 3), 0);
    }

    static void promise5_changesNothing() {
        changesNothing(x -> x.of(0, 3));
        changesNothing(x -> x.of(9, 9));
    }

    // ---- promise 6: cell

    private static void sides(int cell, int... others) {
        BeesBooks x = new BeesBooks();
        is("cell(" + cell + ", 3)", x.cell(cell, 3), others.length);
        for (int k = 0; k < 6; k++) {
            is("cell(" + cell + ", " + (4 + k) + ")", x.cell(cell, 4 + k), k < others.length ? others[k] : NOT);
        }
    }

    static void promise6_theFourCorners() {
        sides(0, 1, 7);
        sides(6, 5, 12, 13);
        sides(42, 35, 43);
        sides(48, 40, 41, 47);
    }

    static void promise6_theFirstCellOfRows() {
        sides(7, 0, 1, 8, 14, 15);
        sides(14, 7, 15, 21);
        sides(21, 14, 15, 22, 28, 29);
        sides(28, 21, 29, 35);
        sides(35, 28, 29, 36, 42, 43);
    }

    static void promise6_theLastCellOfRows() {
        sides(13, 6, 12, 20);
        sides(20, 12, 13, 19, 26, 27);
        sides(27, 20, 26, 34);
        sides(34, 26, 27, 33, 40, 41);
        sides(41, 34, 40, 48);
    }

    static void promise6_theFirstAndTheLastRow() {
        sides(1, 0, 2, 7, 8);
        sides(5, 4, 6, 11, 12);
        sides(43, 35, 36, 42, 44);
        sides(47, 39, 40, 46, 48);
    }

    static void promise6_sixNeighboursInRowsEvenAndOdd() {
        sides(24, 17, 18, 23, 25, 31, 32);
        sides(16, 8, 9, 15, 17, 22, 23);
        sides(8, 1, 2, 7, 9, 15, 16);
        sides(40, 33, 34, 39, 41, 47, 48);
    }

    static void promise6_allNeighboursByNumbers() {
        for (int cell = 0; cell < 49; cell++) {
            int[] others = Model.neighbours(cell).stream().mapToInt(Integer::intValue).toArray();
            sides(cell, others);
        }
    }

    static void promise6_cellBelow0IsBad() {
        for (int what = 0; what <= 9; what++) {
            is("cell(-1, " + what + ")", Scenes.busy().cell(-1, what), BAD);
            is("cell(least, " + what + ")", Scenes.busy().cell(LEAST, what), BAD);
        }
    }

    static void promise6_cell49IsBad() {
        for (int what = 0; what <= 9; what++) {
            is("cell(49, " + what + ")", Scenes.full(1).cell(49, what), BAD);
            is("cell(most, " + what + ")", Scenes.full(1).cell(MOST, what), BAD);
        }
    }

    static void promise6_whatBelow0IsBad() {
        answers(x -> x.cell(0, -1), BAD);
        answers(x -> x.cell(0, LEAST), BAD);
    }

    static void promise6_what10IsBad() {
        answers(x -> x.cell(24, 10), BAD);
        answers(x -> x.cell(24, MOST), BAD);
    }

    static void promise6_whatHoldsNothing() {
        BeesBooks x = Scenes.laid(24, 36);
        is("cell(25, 0)", x.cell(25, 0), NOT);
        is("cell(25, 1)", x.cell(25, 1), 0);
        is("cell(25, 2)", x.cell(25, 2), 0);
        is("cell(24, 0)", x.cell(24, 0), 3);
        is("cell(24, 1)", x.cell(24, 1), 6);
    }

    static void promise6_theFirstAndTheLastCellHold() {
        BeesBooks x = Scenes.laid(0, 1, 48, 56);
        is("cell(0, 0)", x.cell(0, 0), 0);
        is("cell(0, 1)", x.cell(0, 1), 1);
        is("cell(48, 0)", x.cell(48, 0), 5);
        is("cell(48, 1)", x.cell(48, 1), 6);
    }

    static void promise6_sealedWhenTheLastNeighbourIsFull() {
        int[] about = {17, 18, 23, 25, 31, 32};
        BeesBooks x = Scenes.laid(24, 1);
        for (int i = 0; i < about.length; i++) {
            is("cell(24, 2) by " + i, x.cell(24, 2), 0);
            Scenes.lay(x, about[i], 11);
        }
        is("cell(24, 2) by all", x.cell(24, 2), 1);
    }

    static void promise6_eachNeighbourThatLacksUnseals() {
        for (int other : new int[] {17, 18, 23, 25, 31, 32}) {
            BeesBooks x = Scenes.full(1);
            is("cell(24, 2)", x.cell(24, 2), 1);
            x.fly(10 * other);
            is("cell(24, 2) without " + other, x.cell(24, 2), 0);
        }
    }

    static void promise6_anEmptyCellAmongFullOnesIsNotSealed() {
        BeesBooks x = Scenes.full(1);
        x.fly(240);
        is("cell(24, 2)", x.cell(24, 2), 0);
        is("cell(17, 2)", x.cell(17, 2), 0);
        is("cell(16, 2)", x.cell(16, 2), 1);
    }

    static void promise6_aCornerIsSealedByThoseThatAreThere() {
        BeesBooks x = Scenes.laid(0, 1, 1, 1, 7, 1, 48, 1, 47, 1, 40, 1);
        is("cell(0, 2)", x.cell(0, 2), 1);
        is("cell(48, 2) without 41", x.cell(48, 2), 0);
        Scenes.lay(x, 41, 1);
        is("cell(48, 2)", x.cell(48, 2), 1);
    }

    static void promise6_changesNothing() {
        changesNothing(x -> x.cell(24, 2));
        changesNothing(x -> x.cell(49, 10));
    }

    // ---- promise 7: far

    static void promise7_ofACellToItself() {
        for (int cell = 0; cell < 49; cell++) {
            is("far(" + cell + ", " + cell + ")", new BeesBooks().far(cell, cell), 0);
        }
    }

    static void promise7_fromCornerToCorner() {
        BeesBooks x = new BeesBooks();
        is("far(0, 48)", x.far(0, 48), 9);
        is("far(48, 0)", x.far(48, 0), 9);
        is("far(6, 42)", x.far(6, 42), 9);
        is("far(0, 6)", x.far(0, 6), 6);
        is("far(0, 42)", x.far(0, 42), 6);
        is("far(6, 48)", x.far(6, 48), 6);
        is("far(42, 48)", x.far(42, 48), 6);
    }

    static void promise7_cellBelow0IsBad() {
        answers(x -> x.far(-1, 0), BAD);
        answers(x -> x.far(0, -1), BAD);
        answers(x -> x.far(-1, -1), BAD);
        answers(x -> x.far(LEAST, 0), BAD);
        answers(x -> x.far(0, LEAST), BAD);
    }

    static void promise7_cell49IsBad() {
        answers(x -> x.far(49, 0), BAD);
        answers(x -> x.far(0, 49), BAD);
        answers(x -> x.far(49, 49), BAD);
        answers(x -> x.far(MOST, 0), BAD);
        answers(x -> x.far(0, MOST), BAD);
    }

    static void promise7_allDistances() {
        for (int one = 0; one < 49; one++) {
            BeesBooks x = new BeesBooks();
            for (int other = 0; other < 49; other++) {
                is("far(" + one + ", " + other + ")", x.far(one, other), Model.steps(one, other));
            }
        }
    }

    static void promise7_fullCellsAreNoHindrance() {
        is("far(0, 48)", Scenes.full(1).far(0, 48), 9);
    }

    static void promise7_changesNothing() {
        changesNothing(x -> x.far(0, 48));
        changesNothing(x -> x.far(0, 49));
    }
}
