/** The boundaries of promises 28 to 36: sales, winters, heat and swarms in deed, what is led, the image, changes. */
public final class BoundaryDeedTest extends Boundary {
    private BoundaryDeedTest() {
    }

    public static void main(String[] args) throws IllegalAccessException {
        runAll(BoundaryDeedTest.class, 28, 36);
    }

    private static void ledIs(BeesBooks x, int... want) {
        for (int what = 0; what < want.length; what++) {
            is("led(" + what + ")", x.led(what), want[what]);
        }
    }

    // ---- promise 28: sale

    static void promise28_theFirstAndTheLastSum() {
        BeesBooks x = Scenes.byNumbers();
        is("sale(1)", x.sale(1), 0);
        is("sale(56)", x.sale(56), 1);
        is("cell(0, 0)", x.cell(0, 0), 0);
        is("cell(0, 1)", x.cell(0, 1), 1);
        is("cell(1, 0)", x.cell(1, 0), 5);
        is("cell(1, 1)", x.cell(1, 1), 6);
        ledIs(x, 2, 7, 0, 0, 0, 0);
    }

    static void promise28_sum0IsBad() {
        refused(x -> x.sale(0), BAD);
        refused(x -> x.sale(20), BAD);
    }

    static void promise28_sum7IsBad() {
        for (int sum = 7; sum <= 9; sum++) {
            int as = sum;
            refused(x -> x.sale(as), BAD);
            refused(x -> x.sale(20 + as), BAD);
        }
    }

    static void promise28_noSuchAccountIsBad() {
        refused(x -> x.sale(31), BAD);
        refused(x -> x.sale(61), BAD);
        refused(x -> x.sale(MOST - 6), BAD);
        refused(BeesBooks::new, x -> x.sale(1), BAD);
        refused(Scenes::byNumbers, x -> x.sale(61), BAD);
    }

    static void promise28_below0IsBad() {
        for (int as : new int[] {-1, -5, -9, -10, -19, LEAST, LEAST + 1}) {
            refused(x -> x.sale(as), BAD);
        }
    }

    static void promise28_the49thIsWritten() {
        BeesBooks x = Scenes.first(48, 1);
        is("sale(2)", x.sale(2), 48);
        is("count(1)", x.count(1), 49);
        is("count(2)", x.count(2), 49);
        ledIs(x, 49, 50);
    }

    static void promise28_noCellIsEmpty() {
        refused(() -> Scenes.full(1), x -> x.sale(1), FULL);
        refused(() -> Scenes.full(1), x -> x.sale(56), FULL);
    }

    static void promise28_badAheadOfFull() {
        refused(() -> Scenes.full(1), x -> x.sale(7), BAD);
        refused(() -> Scenes.full(1), x -> x.sale(61), BAD);
        refused(() -> Scenes.full(1), x -> x.sale(-1), BAD);
    }

    static void promise28_whereItWouldBeWritten() {
        BeesBooks x = Scenes.with(24, 30);
        for (int i = 0; i < 49; i++) {
            int as = 10 * (i % 2) + 1 + i % 6;
            int where = x.where(as);
            is("sale(" + as + ")", x.sale(as), where);
        }
        is("sale(1)", x.sale(1), FULL);
    }

    static void promise28_emptiedACellIsWrittenAgain() {
        BeesBooks x = Scenes.full(1);
        x.fly(240);
        is("sale(12)", x.sale(12), 24);
        is("sale(12)", x.sale(12), FULL);
    }

    // ---- promise 29: eat

    static void promise29_nBelow0IsBad() {
        refused(x -> x.eat(-1), BAD);
        refused(x -> x.eat(LEAST), BAD);
    }

    static void promise29_n50IsBad() {
        refused(x -> x.eat(50), BAD);
        refused(x -> x.eat(MOST), BAD);
        refused(() -> Scenes.full(1), x -> x.eat(50), BAD);
    }

    static void promise29_n0IsAYearToo() {
        BeesBooks x = Scenes.byNumbers(3, 4);
        is("eat(0)", x.eat(0), 0);
        is("count(1)", x.count(1), 2);
        ledIs(x, 2, 7, 0, 0, 0, 1);
    }

    static void promise29_n49() {
        BeesBooks x = Scenes.full(1);
        is("eat(49)", x.eat(49), 49);
        is("count(1)", x.count(1), 0);
        ledIs(x, 49, 49, 49, 0, 0, 1);
        BeesBooks y = Scenes.full(1);
        is("eat(48)", y.eat(48), 48);
        is("count(1)", y.count(1), 1);
        is("cell(0, 0)", y.cell(0, 0), 0);
    }

    static void promise29_asLongAsThereAreSome() {
        BeesBooks x = Scenes.byNumbers(3, 4);
        is("eat(3)", x.eat(3), 2);
        is("eat(1)", x.eat(1), 0);
        is("eat(49)", x.eat(49), 0);
        ledIs(x, 2, 7, 2, 0, 0, 3);
        is("without anything", new BeesBooks().eat(49), 0);
    }

    static void promise29_justAllThereAre() {
        BeesBooks x = Scenes.byNumbers(3, 4);
        is("eat(2)", x.eat(2), 2);
        is("count(1)", x.count(1), 0);
    }

    static void promise29_theLeastSumThenTheGreatestCell() {
        BeesBooks x = Scenes.byNumbers(2, 13, 2, 13);
        is("eat(1)", x.eat(1), 1);
        is("cell(2, 0)", x.cell(2, 0), NOT);
        is("eat(2)", x.eat(2), 2);
        is("cell(0, 0)", x.cell(0, 0), NOT);
        is("cell(3, 0)", x.cell(3, 0), NOT);
        is("cell(1, 0)", x.cell(1, 0), 1);
    }

    static void promise29_unsealedOnesFirst() {
        BeesBooks x = Scenes.laid(0, 1, 1, 15, 7, 16);
        is("eat(1)", x.eat(1), 1);
        is("cell(0, 0)", x.cell(0, 0), 0);
        is("cell(1, 0)", x.cell(1, 0), NOT);
        is("eat(1)", x.eat(1), 1);
        is("cell(0, 0)", x.cell(0, 0), NOT);
        is("cell(7, 0)", x.cell(7, 0), 1);
    }

    static void promise29_ifAllAreSealedOfAll() {
        BeesBooks x = Scenes.full(3);
        x.fly(200);
        x.sale(11);
        is("eat(1)", x.eat(1), 1);
        is("cell(20, 0)", x.cell(20, 0), NOT);
        BeesBooks y = Scenes.full(3);
        is("eat(1)", y.eat(1), 1);
        is("cell(48, 0)", y.cell(48, 0), NOT);
    }

    static void promise29_asInThought() {
        for (int n = 0; n <= 49; n++) {
            BeesBooks x = Scenes.busy();
            int left = x.winter(n, 2);
            x.eat(n);
            is("of(2, 3) behind " + n, x.of(2, 3), left);
        }
    }

    // ---- promise 30: run

    static void promise30_none() {
        refused(BeesBooks::new, BeesBooks::run, 0);
        refused(() -> Scenes.laid(24, 3), BeesBooks::run, 0);
        refused(() -> Scenes.laid(24, 3, 26, 14), BeesBooks::run, 0);
        refused(() -> Scenes.laid(24, 3, 25, 4), BeesBooks::run, 0);
    }

    static void promise30_theLesserSumTurns() {
        BeesBooks x = Scenes.laid(24, 3, 25, 14);
        is("run()", x.run(), 1);
        is("cell(24, 0)", x.cell(24, 0), 1);
        is("cell(24, 1)", x.cell(24, 1), 3);
        is("cell(25, 0)", x.cell(25, 0), 1);
        is("cell(25, 1)", x.cell(25, 1), 4);
        BeesBooks y = Scenes.laid(24, 4, 25, 13);
        is("run()", y.run(), 1);
        is("cell(25, 0)", y.cell(25, 0), 0);
    }

    static void promise30_ofLikeOnesTheGreaterCellTurns() {
        BeesBooks x = Scenes.laid(24, 13, 25, 3);
        is("run()", x.run(), 1);
        is("cell(25, 0)", x.cell(25, 0), 1);
    }

    static void promise30_theSealedDoNotTurn() {
        refused(() -> Scenes.laid(0, 1, 1, 15, 7, 16), BeesBooks::run, 0);
        refused(() -> Scenes.laid(48, 1, 40, 15, 41, 15, 47, 16), BeesBooks::run, 0);
        refused(() -> Scenes.laid(0, 6, 1, 11, 7, 11), BeesBooks::run, 0);
    }

    static void promise30_howManyAreLed() {
        BeesBooks x = Scenes.laid(24, 1, 25, 12, 32, 23);
        is("run()", x.run(), 3);
        ledIs(x, 3, 6, 0, 3, 0, 0);
        is("run()", x.run(), 0);
        ledIs(x, 3, 6, 0, 3, 0, 0);
    }

    static void promise30_asInThought() {
        BeesBooks x = Scenes.busy();
        Scenes.sell(x, 3, 15, 26, 1, 14, 25);
        int turning = x.heat(-1);
        int then = x.heat(1);
        is("run()", x.run(), turning);
        is("of(1, 3)", x.of(1, 3), then);
    }

    // ---- promise 31: fly

    static void promise31_noSuchCellOrMIsBad() {
        for (int cm : new int[] {-1, -10, 4, 9, 14, 249, 484, 489, 490, 493, 500, LEAST, MOST, MOST - 6}) {
            refused(x -> x.fly(cm), BAD);
            refused(() -> Scenes.full(1), x -> x.fly(cm), BAD);
        }
    }

    static void promise31_m0And3() {
        int[] about = {1, 7, 19, 37};
        for (int m = 0; m <= 3; m++) {
            BeesBooks x = Scenes.full(2);
            is("fly(" + (240 + m) + ")", x.fly(240 + m), about[m]);
            is("count(1)", x.count(1), 49 - about[m]);
            ledIs(x, 49, 98, 0, 0, about[m], 0);
        }
    }

    static void promise31_theFirstAndTheLastCell() {
        BeesBooks x = Scenes.full(1);
        is("fly(0)", x.fly(0), 1);
        is("fly(480)", x.fly(480), 1);
        is("cell(0, 0)", x.cell(0, 0), NOT);
        is("cell(48, 0)", x.cell(48, 0), NOT);
        is("fly(3)", x.fly(3), Scenes.full(1).fly(3) - 1);
        is("fly(483)", x.fly(483), Scenes.full(1).fly(483) - 1);
    }

    static void promise31_noFartherThanM() {
        for (int m = 0; m <= 3; m++) {
            BeesBooks x = Scenes.full(1);
            x.fly(170 + m);
            for (int cell = 0; cell < 49; cell++) {
                boolean goes = Model.steps(17, cell) <= m;
                is("cell(" + cell + ", 0) by " + m, x.cell(cell, 0), goes ? NOT : 0);
            }
        }
    }

    static void promise31_noneHeldSomething() {
        refused(BeesBooks::new, x -> x.fly(243), 0);
        refused(() -> Scenes.laid(0, 1), x -> x.fly(243), 0);
    }

    static void promise31_whatIsEmptiedHoldsNothing() {
        BeesBooks x = Scenes.laid(24, 15);
        is("fly(240)", x.fly(240), 1);
        is("fly(240)", x.fly(240), 0);
        is("cell(24, 1)", x.cell(24, 1), 0);
        is("of(1, 3)", x.of(1, 3), 0);
        ledIs(x, 1, 5, 0, 0, 1, 0);
    }

    // ---- promise 32: led

    static void promise32_whatBelow0IsBad() {
        refused(x -> x.led(-1), BAD);
        refused(x -> x.led(LEAST), BAD);
    }

    static void promise32_what6IsBad() {
        refused(x -> x.led(6), BAD);
        refused(x -> x.led(MOST), BAD);
    }

    static void promise32_eachByItself() {
        BeesBooks x = Scenes.laid(24, 3, 25, 14, 26, 25, 40, 6);
        ledIs(x, 4, 18, 0, 0, 0, 0);
        x.run();
        ledIs(x, 4, 18, 0, 2, 0, 0);
        x.fly(251);
        ledIs(x, 4, 18, 0, 2, 3, 0);
        x.eat(3);
        ledIs(x, 4, 18, 1, 2, 3, 1);
        x.eat(3);
        ledIs(x, 4, 18, 1, 2, 3, 2);
        x.sale(2);
        ledIs(x, 5, 20, 1, 2, 3, 2);
    }

    static void promise32_whatIsRefusedIsNotLed() {
        BeesBooks x = Scenes.full(2);
        x.sale(1);
        x.sale(0);
        x.eat(50);
        x.fly(4);
        ledIs(x, 49, 98, 0, 0, 0, 0);
    }

    static void promise32_whatIsThoughtIsNotLed() {
        BeesBooks x = Scenes.laid(24, 3, 25, 14);
        Scenes.bytes(x, 0, 0, 1);
        x.where(1);
        x.sales(0, -1);
        x.winter(2, 0);
        x.outlasts(0, 1);
        x.order(0, 1, -1);
        x.heat(-1);
        x.swarm(243, -1);
        x.least(0, 1, 0);
        x.drawn(1, 6049, 0);
        ledIs(x, 2, 7, 0, 0, 0, 0);
    }

    // ---- promise 33: image

    static void promise33_ofAnEmptyComb() {
        BeesBooks x = Scenes.with(24);
        is("image()", x.image(), 0);
        x.sale(1);
        is("back()", x.back(), 0);
        is("count(1)", x.count(1), 0);
        is("cell(24, 0)", x.cell(24, 0), NOT);
        is("where(1)", x.where(1), 24);
        ledIs(x, 0, 0, 0, 0, 0, 0);
    }

    static void promise33_theSalesThatAreLed() {
        BeesBooks x = Scenes.byNumbers(1, 2, 3);
        x.eat(2);
        is("image()", x.image(), 3);
    }

    static void promise33_ofAFullComb() {
        BeesBooks x = Scenes.full(1);
        is("image()", x.image(), 49);
        x.eat(49);
        is("back()", x.back(), 49);
        is("count(1)", x.count(1), 49);
        is("count(2)", x.count(2), 49);
        is("where(1)", x.where(1), NOT);
    }

    static void promise33_theLatestIsKept() {
        BeesBooks x = Scenes.byNumbers(1);
        is("image()", x.image(), 1);
        x.sale(2);
        is("image()", x.image(), 2);
        x.sale(3);
        is("back()", x.back(), 2);
        is("count(1)", x.count(1), 2);
    }

    static void promise33_laterDeedsLeaveIt() {
        BeesBooks x = Scenes.laid(24, 3, 25, 14);
        x.image();
        x.run();
        x.eat(1);
        x.fly(251);
        x.sale(1);
        is("back()", x.back(), 2);
        is("cell(24, 0)", x.cell(24, 0), 0);
        is("cell(25, 1)", x.cell(25, 1), 4);
        is("count(1)", x.count(1), 2);
        ledIs(x, 2, 7, 0, 0, 0, 0);
    }

    static void promise33_changesNothingElse() {
        BeesBooks x = Scenes.laid(24, 3);
        int changes = x.count(4);
        x.image();
        is("count(1)", x.count(1), 1);
        is("count(4)", x.count(4), changes);
        ledIs(x, 1, 3, 0, 0, 0, 0);
    }

    // ---- promise 34: back

    static void promise34_thereIsNone() {
        refused(BeesBooks::new, BeesBooks::back, STATE);
        refused(() -> Scenes.laid(24, 3, 25, 14), BeesBooks::back, STATE);
    }

    static void promise34_itMayBeLaidBackAgain() {
        BeesBooks x = Scenes.byNumbers(1, 2);
        x.image();
        x.eat(2);
        is("back()", x.back(), 2);
        x.eat(1);
        is("back()", x.back(), 2);
        is("count(1)", x.count(1), 2);
        is("back()", x.back(), 2);
    }

    static void promise34_allThatIsLed() {
        BeesBooks x = Scenes.laid(24, 3, 25, 14, 26, 25, 40, 6);
        x.run();
        x.fly(251);
        x.eat(3);
        x.image();
        x.sale(1);
        x.eat(1);
        is("back()", x.back(), 4);
        ledIs(x, 4, 18, 1, 2, 3, 1);
    }

    static void promise34_accountsChangesAndTheLawStay() {
        BeesBooks x = Scenes.with(24);
        x.image();
        x.account(9);
        x.mend(0, 0, 30);
        x.mend(0, 1, 3);
        x.mend(0, 2, 4);
        Scenes.told(x, "r");
        x.feed('d');
        is("back()", x.back(), 0);
        is("count(0)", x.count(0), 2);
        is("of(0, 0)", x.of(0, 0), 30);
        is("of(0, 1)", x.of(0, 1), 3);
        is("of(0, 2)", x.of(0, 2), 4);
        is("where(1)", x.where(1), 42);
        is("count(3)", x.count(3), 1);
        is("undo()", x.undo(), 2);
    }

    static void promise34_sealsAndWhatIsHeldAreKnownAgain() {
        BeesBooks x = Scenes.laid(0, 1, 1, 15, 7, 16);
        x.image();
        x.fly(10);
        is("cell(0, 2)", x.cell(0, 2), 0);
        x.back();
        is("cell(0, 2)", x.cell(0, 2), 1);
        is("winter(1, 0)", x.winter(1, 0), 1);
        is("eat(49)", x.eat(49), 3);
        is("back()", x.back(), 3);
        is("eat(49)", x.eat(49), 3);
    }

    // ---- promise 35: undo

    private static BeesBooks changed() {
        BeesBooks x = Scenes.with(5, 6);
        x.mend(1, 0, 7);
        x.mend(0, 1, 8);
        x.mend(0, 2, 3);
        return x;
    }

    static void promise35_none() {
        refused(BeesBooks::new, BeesBooks::undo, STATE);
        refused(() -> Scenes.with(5), BeesBooks::undo, STATE);
        refused(() -> {
            BeesBooks x = changed();
            x.undo();
            x.undo();
            x.undo();
            return x;
        }, BeesBooks::undo, STATE);
    }

    static void promise35_theLatestFirst() {
        BeesBooks x = changed();
        is("undo()", x.undo(), 2);
        is("of(0, 2)", x.of(0, 2), 1);
        is("of(0, 1)", x.of(0, 1), 8);
        is("undo()", x.undo(), 1);
        is("of(0, 1)", x.of(0, 1), 6);
        is("of(1, 0)", x.of(1, 0), 7);
        is("undo()", x.undo(), 0);
        is("of(1, 0)", x.of(1, 0), 6);
        is("undo()", x.undo(), STATE);
        is("count(4)", x.count(4), 0);
    }

    static void promise35_theSameNumberIsNone() {
        BeesBooks x = Scenes.with(5);
        x.mend(0, 0, 5);
        x.mend(0, 1, 6);
        x.mend(0, 2, 1);
        is("count(4)", x.count(4), 0);
        is("undo()", x.undo(), STATE);
        x.mend(0, 0, 6);
        x.mend(0, 0, 6);
        is("count(4)", x.count(4), 1);
    }

    static void promise35_whatIsRefusedIsNone() {
        BeesBooks x = changed();
        x.mend(0, 0, 49);
        x.mend(0, 1, 13);
        x.mend(1, 2, 4);
        is("count(4)", x.count(4), 3);
    }

    static void promise35_deedsAreNone() {
        BeesBooks x = Scenes.with(5);
        x.sale(3);
        x.eat(1);
        x.run();
        x.fly(243);
        x.image();
        x.back();
        Scenes.told(x, "d");
        x.account(9);
        x.body(0);
        x.keep(0, 0);
        x.row(1, 0, 3);
        x.put(1, 0, 3);
        is("count(4)", x.count(4), 0);
        is("undo()", x.undo(), STATE);
    }

    static void promise35_deedsStayWhenAChangeIsUndone() {
        BeesBooks x = Scenes.with(5);
        x.mend(0, 0, 9);
        is("sale(3)", x.sale(3), 9);
        is("undo()", x.undo(), 0);
        is("cell(9, 1)", x.cell(9, 1), 3);
        is("sale(4)", x.sale(4), 5);
    }

    /** The door of account 0 becomes 1, 2, 3 .. */
    static BeesBooks doorChanged(int times) {
        BeesBooks x = Scenes.with(0);
        for (int i = 1; i <= times; i++) {
            x.mend(0, 0, i);
        }
        return x;
    }

    static void promise35_40AreKept() {
        BeesBooks x = doorChanged(40);
        is("count(4)", x.count(4), 40);
        for (int i = 39; i >= 0; i--) {
            is("undo()", x.undo(), i);
            is("of(0, 0)", x.of(0, 0), i);
        }
        is("undo()", x.undo(), STATE);
        is("of(0, 0)", x.of(0, 0), 0);
    }

    static void promise35_theFirstOf41IsNotKept() {
        BeesBooks x = doorChanged(41);
        is("count(4)", x.count(4), 40);
        for (int i = 40; i >= 1; i--) {
            is("undo()", x.undo(), i - 1);
            is("of(0, 0)", x.of(0, 0), i);
        }
        is("undo()", x.undo(), STATE);
        is("of(0, 0)", x.of(0, 0), 1);
    }

    static void promise35_39() {
        BeesBooks x = doorChanged(39);
        is("count(4)", x.count(4), 39);
        is("undo()", x.undo(), 38);
    }

    static void promise35_unlikeOnesBeyond40() {
        BeesBooks x = Scenes.with(0);
        x.mend(0, 1, 0);
        x.mend(0, 2, 6);
        for (int i = 1; i <= 39; i++) {
            x.mend(0, 0, i);
        }
        is("count(4)", x.count(4), 40);
        for (int i = 39; i > 0; i--) {
            is("undo()", x.undo(), i);
        }
        is("of(0, 2)", x.of(0, 2), 6);
        is("undo()", x.undo(), 0);
        is("of(0, 2)", x.of(0, 2), 1);
        is("of(0, 1)", x.of(0, 1), 0);
        is("undo()", x.undo(), STATE);
    }

    static void promise35_unlikeOnesAtTheEndOf41() {
        BeesBooks x = doorChanged(38);
        x.mend(0, 1, 0);
        x.mend(0, 2, 6);
        x.mend(0, 0, 48);
        is("undo()", x.undo(), 39);
        is("of(0, 0)", x.of(0, 0), 38);
        is("undo()", x.undo(), 38);
        is("of(0, 2)", x.of(0, 2), 1);
        is("undo()", x.undo(), 37);
        is("of(0, 1)", x.of(0, 1), 6);
        is("undo()", x.undo(), 36);
        is("of(0, 0)", x.of(0, 0), 37);
        is("redo()", x.redo(), 3);
        is("redo()", x.redo(), 2);
        is("of(0, 1)", x.of(0, 1), 0);
        is("redo()", x.redo(), 1);
        is("of(0, 2)", x.of(0, 2), 6);
        is("redo()", x.redo(), 0);
        is("of(0, 0)", x.of(0, 0), 48);
    }

    // ---- promise 36: redo

    static void promise36_none() {
        refused(BeesBooks::new, BeesBooks::redo, STATE);
        refused(BoundaryDeedTest::changed, BeesBooks::redo, STATE);
        refused(() -> {
            BeesBooks x = changed();
            x.undo();
            x.redo();
            return x;
        }, BeesBooks::redo, STATE);
    }

    static void promise36_howManyMayStillBe() {
        BeesBooks x = changed();
        x.undo();
        x.undo();
        x.undo();
        is("redo()", x.redo(), 2);
        is("of(1, 0)", x.of(1, 0), 7);
        is("of(0, 1)", x.of(0, 1), 6);
        is("redo()", x.redo(), 1);
        is("of(0, 1)", x.of(0, 1), 8);
        is("redo()", x.redo(), 0);
        is("of(0, 2)", x.of(0, 2), 3);
        is("redo()", x.redo(), STATE);
        is("count(4)", x.count(4), 3);
    }

    static void promise36_notWhenAnotherCame() {
        BeesBooks x = changed();
        x.undo();
        x.mend(0, 0, 9);
        is("redo()", x.redo(), STATE);
        is("of(0, 2)", x.of(0, 2), 1);
        is("count(4)", x.count(4), 3);
        is("undo()", x.undo(), 2);
        is("of(0, 0)", x.of(0, 0), 5);
        is("redo()", x.redo(), 0);
        is("of(0, 0)", x.of(0, 0), 9);
    }

    static void promise36_notEvenWhenTheSameCame() {
        BeesBooks x = changed();
        x.undo();
        x.undo();
        x.mend(0, 1, 8);
        is("redo()", x.redo(), STATE);
        is("of(0, 2)", x.of(0, 2), 1);
    }

    static void promise36_theSameNumberIsNoOther() {
        BeesBooks x = changed();
        x.undo();
        x.mend(0, 1, 8);
        x.mend(0, 2, 1);
        x.mend(0, 0, 5);
        is("redo()", x.redo(), 0);
        is("of(0, 2)", x.of(0, 2), 3);
    }

    static void promise36_whatIsRefusedIsNoOther() {
        BeesBooks x = changed();
        x.undo();
        x.mend(0, 1, 13);
        x.mend(2, 0, 1);
        is("redo()", x.redo(), 0);
    }

    static void promise36_deedsAreNoOthers() {
        BeesBooks x = changed();
        x.undo();
        x.sale(3);
        x.eat(1);
        x.run();
        x.fly(0);
        x.image();
        x.back();
        x.account(4);
        Scenes.told(x, "d");
        is("redo()", x.redo(), 0);
        is("of(0, 2)", x.of(0, 2), 3);
    }

    static void promise36_all40() {
        BeesBooks x = doorChanged(41);
        for (int i = 0; i < 40; i++) {
            x.undo();
        }
        for (int i = 2; i <= 41; i++) {
            is("redo()", x.redo(), 41 - i);
            is("of(0, 0)", x.of(0, 0), i);
        }
        is("redo()", x.redo(), STATE);
        is("count(4)", x.count(4), 40);
    }

    static void promise36_another40Behind() {
        BeesBooks x = doorChanged(40);
        x.undo();
        x.mend(0, 0, 48);
        is("count(4)", x.count(4), 40);
        is("redo()", x.redo(), STATE);
        x.mend(0, 0, 47);
        is("count(4)", x.count(4), 40);
        is("undo()", x.undo(), 39);
        is("of(0, 0)", x.of(0, 0), 48);
        is("undo()", x.undo(), 38);
        is("of(0, 0)", x.of(0, 0), 39);
    }
}
