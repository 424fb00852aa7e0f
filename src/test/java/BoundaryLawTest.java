/** The boundaries of promises 8 to 10: the tape, texts of laws, the cell that ranks first by them. */
public final class BoundaryLawTest extends Boundary {
    private static final String SIX_OPEN = "((((((1))))))";

    private BoundaryLawTest() {
    }

    public static void main(String[] args) throws IllegalAccessException {
        runAll(BoundaryLawTest.class, 8, 10);
    }

    private static void whole(String text) {
        is("law of " + text, Scenes.told(new BeesBooks(), text), 1);
    }

    private static void fault(String text, int place) {
        is("law of " + text, Scenes.told(new BeesBooks(), text), -100 - place);
    }

    /** The cell that ranks first for a sale by a text; doors 24 and 0, an empty comb. */
    private static void first(String text, int as, int cell) {
        BeesBooks x = Scenes.with(24, 0);
        is("law of " + text, Scenes.told(x, text), 1);
        is("where(" + as + ") by " + text, x.where(as), cell);
    }

    /** By r times what is so, row 6 ranks first; by r times 0, row 0. */
    private static void isSo(String text) {
        first("r*(" + text + ")", 1, 42);
    }

    private static void isNotSo(String text) {
        first("r*(" + text + ")", 1, 0);
    }

    // ---- promise 8: feed

    static BeesBooks tapeOf(int bytes) {
        BeesBooks x = Scenes.with(24);
        for (int i = 0; i < bytes; i++) {
            x.feed(i % 2 == 0 ? 'r' : '+');
        }
        return x;
    }

    static void promise8_howManyItHas() {
        BeesBooks x = new BeesBooks();
        is("feed('d')", x.feed('d'), 1);
        is("feed('+')", x.feed('+'), 2);
        is("count(3)", x.count(3), 2);
    }

    static void promise8_byte0And255() {
        BeesBooks x = new BeesBooks();
        is("feed(0)", x.feed(0), 1);
        is("feed(255)", x.feed(255), 2);
    }

    static void promise8_below0IsBad() {
        refused(Scenes::busy, x -> x.feed(-1), BAD);
        refused(Scenes::busy, x -> x.feed(LEAST), BAD);
    }

    static void promise8_256IsBad() {
        refused(Scenes::busy, x -> x.feed(256), BAD);
        refused(Scenes::busy, x -> x.feed(MOST), BAD);
    }

    static void promise8_the120th() {
        is("feed('r')", tapeOf(119).feed('r'), 120);
        is("count(3)", tapeOf(120).count(3), 120);
    }

    static void promise8_the121stIsFull() {
        refused(() -> tapeOf(120), x -> x.feed('r'), FULL);
        refused(() -> tapeOf(120), x -> x.feed(0), FULL);
        refused(() -> tapeOf(120), x -> x.feed(255), FULL);
    }

    static void promise8_badAheadOfFull() {
        refused(() -> tapeOf(120), x -> x.feed(-1), BAD);
        refused(() -> tapeOf(120), x -> x.feed(256), BAD);
    }

    static void promise8_emptiedItTakes120Again() {
        BeesBooks x = tapeOf(120);
        x.law();
        for (int i = 1; i <= 120; i++) {
            is("feed('1')", x.feed('1'), i);
        }
        is("feed('1')", x.feed('1'), FULL);
    }

    // ---- promise 9: law

    static void promise9_anEmptyTape() {
        refused(() -> Scenes.with(24), BeesBooks::law, -100);
        fault("", 0);
    }

    static void promise9_theTapeIsEmptyThen() {
        BeesBooks x = new BeesBooks();
        is("law", Scenes.told(x, "d"), 1);
        is("count(3)", x.count(3), 0);
        is("law", Scenes.told(x, "d+"), -102);
        is("count(3)", x.count(3), 0);
        is("law", x.law(), -100);
    }

    static void promise9_aFaultLeavesTheLawBefore() {
        BeesBooks x = Scenes.with(24);
        is("law of d+", Scenes.told(x, "d+"), -102);
        is("where(1) without a law", x.where(1), 24);
        is("law of r", Scenes.told(x, "r"), 1);
        is("law of 0-r(", Scenes.told(x, "0-r("), -103);
        is("where(1) by r", x.where(1), 42);
        is("law of nothing", x.law(), -100);
        is("where(1) by r", x.where(1), 42);
    }

    static void promise9_aLaterLawIsTheLaw() {
        BeesBooks x = Scenes.with(24);
        Scenes.told(x, "0?9;0?8;d=20?7;r");
        is("where(1) by r", x.where(1), 42);
        Scenes.told(x, "r=2");
        is("where(1) by r=2", x.where(1), 14);
        Scenes.told(x, "r=3?1");
        is("where(1) by r=3?1", x.where(1), 21);
        Scenes.told(x, "0");
        is("where(1) by 0", x.where(1), 0);
    }

    static void promise9_aTapeShorterThanTheOneBefore() {
        BeesBooks x = Scenes.with(24);
        is("law of r=30", Scenes.told(x, "r=30"), 1);
        is("where(1)", x.where(1), 0);
        is("law of r=3", Scenes.told(x, "r=3"), 1);
        is("where(1)", x.where(1), 21);
    }

    static void promise9_aFaultLeavesNothingForTheNextText() {
        for (String faulty : new String[] {"-", "!", "1+1?(", "1?1+", "((((((", "1*-", "1;2?3?", "0?9;0?"}) {
            BeesBooks x = Scenes.with(24);
            is("law of " + faulty, Scenes.told(x, faulty) < 0 ? 1 : 0, 1);
            is("law of r=3 behind " + faulty, Scenes.told(x, "r=3"), 1);
            is("where(1) behind " + faulty, x.where(1), 21);
            Scenes.told(x, faulty);
            is("law of 1?r behind " + faulty, Scenes.told(x, "1?r"), 1);
            is("where(1) behind " + faulty, x.where(1), 42);
            Scenes.told(x, faulty);
            is("law of six open behind " + faulty, Scenes.told(x, "((((((r))))))"), 1);
            is("where(1) behind " + faulty, x.where(1), 42);
        }
    }

    static void promise9_threeLongTextsOneAfterTheOther() {
        BeesBooks x = Scenes.with(24);
        is("law of many d", Scenes.told(x, "d+".repeat(59) + "1"), 1);
        is("where(1) by many d", x.where(1), 0);
        is("law of many 1 and r", Scenes.told(x, "1+".repeat(59) + "r"), 1);
        is("where(1) by many 1 and r", x.where(1), 42);
        is("law of many 1 less d", Scenes.told(x, "1+".repeat(58) + "1-d"), 1);
        is("where(1) by many 1 less d", x.where(1), 24);
    }

    static void promise9_numbersOf1To4Digits() {
        whole("0");
        whole("9");
        whole("99");
        whole("999");
        whole("9999");
        whole("0000");
        isSo("0007=7");
        isSo("9999=9998+1");
        isSo("1234=1200+34");
    }

    static void promise9_aFifthDigitIsAFault() {
        fault("12345", 4);
        fault("00000", 4);
        fault("d+12345", 6);
        fault("(12345", 5);
    }

    static void promise9_theBytesBesideTheDigitsAreFaults() {
        fault("/", 0);
        fault(":", 0);
        fault("1:", 1);
    }

    static void promise9_sixNamesAndNoOthers() {
        for (char name = 0; name < 256; name++) {
            boolean known = "dnoskr".indexOf(name) >= 0 || name >= '0' && name <= '9';
            boolean opens = "(!-".indexOf(name) >= 0;
            is("law of byte " + (int) name, Scenes.told(new BeesBooks(), "" + name), known ? 1 : opens ? -101 : -100);
        }
    }

    static void promise9_signsBehindAnOperand() {
        for (char sign = 0; sign < 256; sign++) {
            boolean known = "|&<=>+-*/%?;".indexOf(sign) >= 0;
            is("law of d and byte " + (int) sign, Scenes.told(new BeesBooks(), "d" + sign), known ? -102 : -101);
        }
    }

    static void promise9_noBlanks() {
        fault(" ", 0);
        fault(" d", 0);
        fault("d ", 1);
        fault("d +n", 1);
        fault("d+ n", 2);
        fault("1 2", 1);
    }

    static void promise9_tooEarlyIsTheLength() {
        fault("d+", 2);
        fault("d?", 2);
        fault("d;", 2);
        fault("d?n;", 4);
        fault("(", 1);
        fault("(d", 2);
        fault("((d)", 4);
        fault("!", 1);
        fault("-", 1);
        fault("d<", 2);
    }

    static void promise9_linesPartedBySemicolons() {
        whole("d;n");
        whole("d?n;o?s;k");
        fault(";", 0);
        fault(";d", 0);
        fault("d;;d", 2);
        fault("(d;n)", 2);
        fault("d?;n", 2);
    }

    static void promise9_oneConditionALine() {
        whole("d?n");
        whole("d?n;d?n");
        fault("?d", 0);
        fault("d??n", 2);
        fault("d?n?o", 3);
        fault("d;n?o?s", 5);
        fault("(d?n)", 2);
    }

    static void promise9_bracketsOpenAndClose() {
        whole("(d)");
        whole("((d))");
        whole("(d)+(n)");
        fault(")", 0);
        fault("d)", 1);
        fault("(d))", 3);
        fault("()", 1);
        fault("(d)n", 3);
        fault("d(n)", 1);
        fault("(d+)", 3);
    }

    static void promise9_oneComparisonInAB() {
        for (String one : new String[] {"<", "=", ">"}) {
            for (String other : new String[] {"<", "=", ">"}) {
                fault("d" + one + "n" + other + "o", 3);
                whole("(d" + one + "n)" + other + "o");
                whole("d" + one + "(n" + other + "o)");
                whole("d" + one + "n&o" + other + "s");
                whole("d" + one + "n|o" + other + "s");
                fault("d+1" + one + "n-1" + other + "o", 7);
                fault("d&n" + one + "o" + other + "s", 5);
                fault("(d" + one + "n" + other + "o", 4);
                whole("d" + one + "n?o" + other + "s");
                whole("d" + one + "n;o" + other + "s");
            }
        }
    }

    static void promise9_manyOfTheOtherSigns() {
        whole("d|n|o|s|k|r");
        whole("d&n&o&s&k&r");
        whole("d+n-o+s-k+r");
        whole("d*n/o%s*k/r");
    }

    static void promise9_sixOpen() {
        whole(SIX_OPEN);
        whole("------1");
        whole("!!!!!!1");
        whole("(-!(-!1))");
        whole("-(-(-(1)))");
    }

    static void promise9_aSeventhOpenIsAFault() {
        for (String six : new String[] {"((((((", "------", "!!!!!!", "(-!(-!", "-(-(-(", "((!!--"}) {
            for (String seventh : new String[] {"(", "-", "!"}) {
                fault(six + seventh + "1", 6);
                fault(six + seventh, 6);
                fault("d+" + six + seventh, 8);
            }
        }
        fault("((((((1", 7);
        fault("((((((1)))))", 12);
        fault("((((((1)))))))", 13);
    }

    static void promise9_whatIsClosedIsNotOpen() {
        whole(SIX_OPEN + "+" + SIX_OPEN);
        whole("!!!!!!1+!!!!!!1");
        whole("(" + "-----1" + "-" + "-----1" + ")");
        fault("(-----1-------1", 13);
        whole("(((((1)+(1)))))");
        fault("(((((1)+((1", 11);
        fault("(((((1)+(((1", 10);
        whole("!(((((1)))))+((((((1))))))");
        whole("-(1)*((((((1))))))");
        fault("-((((((1", 6);
        fault("(-(1)+(((((1", 12);
        fault("(-(1)+((((((1", 11);
        whole("(-(1)+((((1)))))");
        whole("((((((1))))));------1?!!!!!!1");
    }

    static void promise9_aMinusBetweenIsNotOpen() {
        whole("1-1-1-1-1-1-1-1-1");
        whole("1-------1");
        fault("1--------1", 8);
    }

    static void promise9_theFirstFaultCounts() {
        fault("d x x", 1);
        fault("12345 ", 4);
        fault(")d(", 0);
    }

    static void promise9_aTextOf120Bytes() {
        String text = "d+".repeat(59) + "dd";
        fault(text, 119);
        whole("d+".repeat(59) + "99");
        fault("d+".repeat(60), 120);
        whole("0;".repeat(59) + "99");
        whole("0?1;".repeat(29) + "99?9");
    }

    static void promise9_theLastOfSixtyLinesCounts() {
        first("0?1;".repeat(29) + "1?r", 1, 42);
        first("0?1;".repeat(29) + "r?9", 1, 7);
        first("0;" + "1;".repeat(58) + "r", 1, 0);
        first("r;" + "1;".repeat(58) + "1", 1, 42);
    }

    static void promise9_theLongestSums() {
        isSo("1+".repeat(53) + "1=54");
        isSo("1+".repeat(53) + "1>53");
        isNotSo("1+".repeat(53) + "1>54");
    }

    static void promise9_manyWaitAtOnce() {
        isSo("1|0&1<2+3*(1|0&1<2+3*(1|0&1<2+3*(1|0&1<2+3*(1|0&1<2+3*(0)))))");
        isSo("0|1&0<1+2*(0|1&0<1+2*(0|1&0<1+2*(0|1&0<1+2*(0|1&0<1+2*-1))))");
    }

    static void promise9_intsWrap() {
        isSo("9999*9999*9999=" + wrapped());
        isSo("8192*8192*32<0");
        isSo("8192*8192*32-1>0");
        isSo("8192*8192*32-1+1<0");
        isSo("-(8192*8192*32)<0");
        isSo("8192*8192*64=0");
        isSo("-(8192*8192*32)=8192*8192*32");
        isSo("8192*8192*32/-1=8192*8192*32");
        isSo("8192*8192*32%-1=0");
    }

    /** The same product by Java's own wrap-around, told in numbers of four digits. */
    private static String wrapped() {
        int product = 9999 * 9999 * 9999;
        int thousands = product / 1000;
        return thousands / 1000 + "*1000*1000+" + "(" + thousands % 1000 + ")*1000+(" + product % 1000 + ")";
    }

    static void promise9_towardZero() {
        isSo("7/2=3");
        isSo("-7/2=-3");
        isSo("7/-2=-3");
        isSo("-7/-2=3");
        isSo("7%2=1");
        isSo("-7%2=-1");
        isSo("7%-2=1");
        isSo("-7%-2=-1");
        isSo("1/2=0");
        isSo("-1/2=0");
    }

    static void promise9_by0TheyGive0() {
        isSo("7/0=0");
        isSo("-7/0=0");
        isSo("7%0=0");
        isSo("0/0=0");
        isSo("0%0=0");
        isSo("7/(1-1)=0");
        isSo("7/1=7");
        isSo("7%1=0");
        isSo("7/-1=-7");
    }

    static void promise9_comparisonsGive1Or0() {
        isSo("(1<2)=1");
        isSo("(2<2)=0");
        isSo("(3<2)=0");
        isSo("(2=2)=1");
        isSo("(1=2)=0");
        isSo("(3=2)=0");
        isSo("(3>2)=1");
        isSo("(2>2)=0");
        isSo("(1>2)=0");
        isSo("(-1<0)=1");
        isSo("(-1>0)=0");
        isSo("(8192*8192*32<8192*8192*32-1)=1");
    }

    static void promise9_orAndAndGive1Or0() {
        isSo("(0|0)=0");
        isSo("(0|2)=1");
        isSo("(2|0)=1");
        isSo("(2|5)=1");
        isSo("(-1|0)=1");
        isSo("(0|-1)=1");
        isSo("(0&0)=0");
        isSo("(0&2)=0");
        isSo("(2&0)=0");
        isSo("(2&5)=1");
        isSo("(-1&-2)=1");
    }

    static void promise9_notGives1Or0() {
        isSo("!0=1");
        isSo("!1=0");
        isSo("!5=0");
        isSo("!-1=0");
        isSo("!!5=1");
        isSo("!(1-1)=1");
    }

    static void promise9_minusAhead() {
        isSo("-3=0-3");
        isSo("--3=3");
        isSo("-0=0");
        isSo("2--3=5");
        isSo("2*-3=0-6");
    }

    static void promise9_whatBindsTighter() {
        isSo("2+3*4=14");
        isSo("2*3+4=10");
        isSo("1|0&0");
        isSo("0&0|1");
        isSo("2+2<2*3");
        isSo("1=1&2=2");
        isSo("!0+1=2");
        isSo("-1+2=1");
        isSo("-2*3=-6");
        isSo("!1*0=0");
        isSo("!(1*0)=1");
        isSo("(2|0)+1=2");
        isNotSo("0|1<0");
        isSo("(1<2|0)=1");
    }

    static void promise9_fromLeftToRight() {
        isSo("9-3-2=4");
        isSo("9-3+2=8");
        isSo("36/3/2=6");
        isSo("7%4*2=6");
        isSo("7*4%2=0");
        isSo("9-(3-2)=8");
        isSo("36/(3/2)=36");
    }

    static void promise9_theFirstLineThatHoldsCounts() {
        first("1?r;1?-r", 1, 42);
        first("0?r;1?-r;r", 1, 0);
        first("-1?r;-r", 1, 42);
        first("2?r;-r", 1, 42);
        first("0?-r;r", 1, 42);
        first("-r;r", 1, 0);
        first("r;-r", 1, 42);
        first("s=1?r;-r", 1, 42);
        first("s=1?r;-r", 2, 0);
        first("r=6?1;r=5?2", 1, 35);
        first("8192*8192*32?r;-r", 1, 42);
    }

    static void promise9_withoutALineThatHolds0() {
        first("0?9", 1, 0);
        first("0?9;0?8", 1, 0);
        first("r<3?-1", 1, 21);
        first("r>3?-1", 1, 0);
        first("r<3?0-0;r<6?-1", 1, 0);
        first("0?0;r", 1, 42);
        first("0?0;0?0;1?r", 1, 42);
        first("r<6?-1", 1, 42);
    }

    static void promise9_theNames() {
        first("d", 1, 0);
        first("d=4", 1, 1);
        first("d=0", 1, 24);
        first("d=0", 11, 0);
        first("d=9", 11, 41);
        first("r=6", 1, 42);
        first("r=0", 1, 0);
        first("s=6?r", 6, 42);
        first("s=6?r", 5, 0);
        first("s=1?r", 1, 42);
        first("s=1?r", 11, 42);
        first("s=6?r", 16, 42);
        first("s=6?r", 15, 0);
        first("k=0?r", 1, 42);
        first("k=0?r", 11, 0);
        first("k=1?r", 11, 42);
    }

    static void promise9_theNameOfTheLastAccount() {
        BeesBooks x = Scenes.byNumbers();
        is("law", Scenes.told(x, "k=5?r"), 1);
        is("where(51)", x.where(51), 42);
        is("where(41)", x.where(41), 0);
    }

    static void promise9_nNeighboursThatHoldSomething() {
        BeesBooks x = Scenes.laid(17, 1, 18, 1, 23, 11, 25, 1, 31, 21);
        is("law", Scenes.told(x, "n=5"), 1);
        is("where(1) by n=5", x.where(1), 24);
        Scenes.told(x, "n");
        is("where(1) by n", x.where(1), 24);
        BeesBooks y = Scenes.full(1);
        y.fly(240);
        y.fly(0);
        is("law", Scenes.told(y, "n=6"), 1);
        is("where(1) by n=6", y.where(1), 24);
        is("law", Scenes.told(y, "n=2"), 1);
        is("where(1) by n=2", y.where(1), 0);
    }

    static void promise9_oNeighboursOfThatAccount() {
        BeesBooks x = Scenes.laid(17, 1, 18, 1, 23, 11, 25, 1, 31, 21);
        is("law", Scenes.told(x, "o=3"), 1);
        is("where(1) by o=3", x.where(1), 24);
        is("where(11) by o=3", x.where(11), 0);
        is("law", Scenes.told(x, "o"), 1);
        is("where(1) by o", x.where(1), 24);
        is("where(11) by o", x.where(11), 16);
        is("where(31) by o", x.where(31), 0);
    }

    // ---- promise 10: where

    static void promise10_theFirstAndTheLastSum() {
        BeesBooks x = Scenes.with(24);
        is("where(1)", x.where(1), 24);
        is("where(6)", x.where(6), 24);
    }

    static void promise10_sum0IsBad() {
        refused(Scenes::busy, x -> x.where(0), BAD);
        refused(Scenes::busy, x -> x.where(10), BAD);
    }

    static void promise10_sum7IsBad() {
        for (int sum = 7; sum <= 9; sum++) {
            int as = sum;
            refused(Scenes::busy, x -> x.where(as), BAD);
        }
    }

    static void promise10_noSuchAccountIsBad() {
        refused(Scenes::busy, x -> x.where(31), BAD);
        refused(Scenes::busy, x -> x.where(61), BAD);
        refused(Scenes::busy, x -> x.where(MOST - 6), BAD);
        refused(BeesBooks::new, x -> x.where(1), BAD);
        refused(Scenes::byNumbers, x -> x.where(61), BAD);
    }

    static void promise10_theLastAccount() {
        is("where(51)", Scenes.with(1, 2, 3, 4, 5, 6).where(51), 6);
        is("where(56)", Scenes.with(1, 2, 3, 4, 5, 6).where(56), 6);
    }

    static void promise10_below0IsBad() {
        for (int as : new int[] {-1, -5, -9, -10, -11, -99, LEAST, LEAST + 1}) {
            refused(Scenes::busy, x -> x.where(as), BAD);
        }
    }

    static void promise10_noCellIsEmpty() {
        refused(() -> Scenes.full(1), x -> x.where(1), NOT);
    }

    static void promise10_noCellIsEmptyWithoutALaw() {
        BeesBooks x = Scenes.with(24);
        for (int i = 0; i < 49; i++) {
            x.sale(1);
        }
        is("where(1)", x.where(1), NOT);
    }

    static void promise10_badAheadOfNot() {
        refused(() -> Scenes.full(1), x -> x.where(7), BAD);
        refused(() -> Scenes.full(1), x -> x.where(61), BAD);
    }

    static void promise10_oneCellIsLeft() {
        for (int cell : new int[] {0, 24, 48}) {
            BeesBooks x = Scenes.full(1);
            x.fly(10 * cell);
            is("where(1)", x.where(1), cell);
            Scenes.told(x, "0-9999");
            is("where(1) by 0-9999", x.where(1), cell);
        }
    }

    static void promise10_ofLikeOnesTheLeastCell() {
        BeesBooks x = Scenes.with(24);
        x.sale(1);
        is("where(1)", x.where(1), 17);
        first("5", 1, 0);
        first("r=3", 1, 21);
    }

    static void promise10_theGreatestIsTheLastCell() {
        first("r*100+(d=9)", 11, 48);
        first("d+r", 11, 48);
    }

    static void promise10_theGreatestByOne() {
        first("r=6&d=9", 11, 48);
        first("0-(r<6)", 1, 42);
    }

    static void promise10_theLeastIntIsARank() {
        first("8192*8192*32", 1, 0);
        first("r<3?8192*8192*32;-9999", 1, 21);
        first("r>3?8192*8192*32;8192*8192*32+1", 1, 0);
        first("r=2?8192*8192*32+1;8192*8192*32", 1, 14);
    }

    static void promise10_theGreatestIntIsARank() {
        first("r=2?8192*8192*32-1;8192*8192*32-2", 1, 14);
    }

    static void promise10_ranksAreNotSubtracted() {
        first("r=0?8192*8192*32+1;r=3?8192*8192*32-1;0", 1, 21);
        first("r=0?8192*8192*32-1;r=3?8192*8192*32+1;0", 1, 0);
    }

    static void promise10_withoutATextNearestTheDoor() {
        is("where(1)", Scenes.with(48).where(1), 48);
        is("where(11)", Scenes.with(48, 3).where(11), 3);
        BeesBooks x = Scenes.with(41);
        x.sale(1);
        is("where(1) beside 41", x.where(1), 34);
    }

    static void promise10_changesNothing() {
        changesNothing(x -> x.where(3));
        changesNothing(() -> Scenes.with(24), x -> x.where(3));
    }
}
