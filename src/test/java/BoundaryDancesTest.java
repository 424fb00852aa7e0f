import java.math.BigInteger;

/** The boundaries of promises 19 to 27: dances, cells read with gaps, false entries, told entries, draws. */
public final class BoundaryDancesTest extends Boundary {
    /** Account numbers that are none where there are three. */
    private static final int[] NO_ACCOUNTS = {-1, 3, 6, LEAST, MOST};
    private static final int[] NO_PARTS = {-1, 2, LEAST, MOST};
    private static final int[] NO_SUMS = {-1, 0, 7, LEAST, MOST};

    private BoundaryDancesTest() {
    }

    public static void main(String[] args) throws IllegalAccessException {
        runAll(BoundaryDancesTest.class, 19, 27);
    }

    private static BeesBooks flipped(int flip) {
        BeesBooks x = new BeesBooks();
        x.mend(0, 2, flip);
        return x;
    }

    private static BeesBooks guarded(int guards) {
        BeesBooks x = new BeesBooks();
        x.mend(0, 1, guards);
        return x;
    }

    private static BeesBooks heard(int flip, int... bytes) {
        BeesBooks x = flipped(flip);
        Scenes.bytes(x, 0, bytes);
        return x;
    }

    /** Of 12 * 12 * 12 ways of turning, those by which j is heard as h. */
    private static long weight(int flip, int h, int j) {
        long weight = 1;
        for (int bit = 0; bit < 3; bit++) {
            weight *= (h >> bit & 1) == (j >> bit & 1) ? 12 - flip : flip;
        }
        return weight;
    }

    private static void fraction(String call, long above, long below, BigInteger wantAbove, BigInteger wantBelow) {
        BigInteger whole = wantAbove.gcd(wantBelow);
        is(call + " above", above, wantAbove.divide(whole).longValueExact());
        is(call + " below", below, wantBelow.divide(whole).longValueExact());
    }

    // ---- promise 19: dance

    static void promise19_allThatCanBeHeard() {
        for (int flip = 1; flip <= 6; flip++) {
            for (int h = 0; h <= 7; h++) {
                long all = 0;
                for (int j = 1; j <= 6; j++) {
                    all += weight(flip, h, j);
                }
                for (int j = 1; j <= 6; j++) {
                    BeesBooks x = flipped(flip);
                    fraction("dance(" + h + ", " + j + ") by " + flip, x.dance(h, j, 0), x.dance(h, j, 1),
                        BigInteger.valueOf(weight(flip, h, j)), BigInteger.valueOf(all));
                }
            }
        }
    }

    static void promise19_inLowestTerms() {
        is("dance(0, 1, 0)", flipped(1).dance(0, 1, 0), 11);
        is("dance(0, 1, 1)", flipped(1).dance(0, 1, 1), 36);
        is("dance(7, 6, 0)", flipped(6).dance(7, 6, 0), 1);
        is("dance(7, 6, 1)", flipped(6).dance(7, 6, 1), 6);
        is("dance(3, 3, 0)", flipped(1).dance(3, 3, 0), 1331);
        is("dance(3, 3, 1)", flipped(1).dance(3, 3, 1), 1596);
    }

    static void promise19_hBelow0Or8IsBad() {
        for (int h : new int[] {-1, 8, LEAST, MOST}) {
            refused(x -> x.dance(h, 1, 0), BAD_LONG);
            refused(x -> x.dance(h, 1, 1), BAD_LONG);
        }
    }

    static void promise19_j0Or7IsBad() {
        for (int j : NO_SUMS) {
            refused(x -> x.dance(1, j, 0), BAD_LONG);
            refused(x -> x.dance(1, j, 1), BAD_LONG);
        }
    }

    static void promise19_noSuchPartIsBad() {
        for (int part : NO_PARTS) {
            refused(x -> x.dance(1, 1, part), BAD_LONG);
        }
    }

    static void promise19_noneCanBe() {
        for (int j = 1; j <= 6; j++) {
            is("dance(0, " + j + ", 0)", flipped(0).dance(0, j, 0), NOT);
            is("dance(7, " + j + ", 1)", flipped(0).dance(7, j, 1), NOT);
        }
    }

    static void promise19_badAheadOfNot() {
        is("dance(0, 7, 0)", flipped(0).dance(0, 7, 0), BAD_LONG);
        is("dance(0, 0, 0)", flipped(0).dance(0, 0, 0), BAD_LONG);
        is("dance(7, 1, 2)", flipped(0).dance(7, 1, 2), BAD_LONG);
        is("dance(8, 1, 0)", flipped(0).dance(8, 1, 0), BAD_LONG);
    }

    static void promise19_flip0IsSureOrNever() {
        for (int h = 1; h <= 6; h++) {
            for (int j = 1; j <= 6; j++) {
                is("dance(" + h + ", " + j + ", 0)", flipped(0).dance(h, j, 0), h == j ? 1 : 0);
                is("dance(" + h + ", " + j + ", 1)", flipped(0).dance(h, j, 1), 1);
            }
        }
    }

    static void promise19_changesNothing() {
        changesNothing(x -> x.dance(3, 3, 0));
    }

    // ---- promise 20: dances

    private static void likely(int flip, int... bytes) {
        int dances = 0;
        while (dances < 4 && dances < bytes.length && bytes[dances] >= 0 && bytes[dances] <= 7) {
            dances++;
        }
        BigInteger[] weights = new BigInteger[7];
        BigInteger all = BigInteger.ZERO;
        int best = 1;
        for (int j = 1; j <= 6; j++) {
            weights[j] = BigInteger.ONE;
            for (int i = 0; i < dances; i++) {
                weights[j] = weights[j].multiply(BigInteger.valueOf(weight(flip, bytes[i], j)));
            }
            all = all.add(weights[j]);
            best = weights[j].compareTo(weights[best]) > 0 ? j : best;
        }
        String call = "dances of " + java.util.Arrays.toString(bytes) + " by " + flip;
        for (int j = 1; j <= 6; j++) {
            BeesBooks x = heard(flip, bytes);
            fraction(call + " " + j, x.dances(0, j, 0), x.dances(0, j, 1), weights[j], all);
        }
        is(call + " likeliest", heard(flip, bytes).dances(0, 0, 2), best);
    }

    static void promise20_noRowOfBytes() {
        wantsBytes((x, shelf) -> x.dances(shelf, 1, 0), BAD_LONG, BAD_LONG, BAD_LONG);
        wantsBytes((x, shelf) -> x.dances(shelf, 1, 2), BAD_LONG, BAD_LONG, BAD_LONG);
    }

    static void promise20_j0Or7IsBad() {
        for (int j : NO_SUMS) {
            refused(x -> x.dances(2, j, 0), BAD_LONG);
            refused(x -> x.dances(2, j, 1), BAD_LONG);
        }
    }

    static void promise20_noSuchPartIsBad() {
        for (int part : new int[] {-1, 3, LEAST, MOST}) {
            refused(x -> x.dances(2, 1, part), BAD_LONG);
            refused(x -> x.dances(2, 0, part), BAD_LONG);
        }
    }

    static void promise20_forTheLikeliestJDoesNotMatter() {
        for (int j : new int[] {LEAST, -1, 0, 1, 6, 7, MOST}) {
            is("dances(0, " + j + ", 2)", heard(1, 5).dances(0, j, 2), 5);
        }
    }

    static void promise20_noneHeard() {
        likely(1);
        is("dances(0, 6, 0)", heard(1).dances(0, 6, 0), 1);
        is("dances(0, 6, 1)", heard(1).dances(0, 6, 1), 6);
        is("dances(0, 0, 2)", heard(1).dances(0, 0, 2), 1);
    }

    static void promise20_oneHeard() {
        for (int h = 0; h <= 7; h++) {
            likely(1, h);
        }
    }

    static void promise20_fourHeard() {
        likely(1, 3, 3, 3, 3);
        likely(5, 1, 2, 4, 7);
        likely(1, 6, 6, 6, 6);
        likely(6, 0, 7, 0, 7);
        likely(1, 5, 2, 5, 2);
    }

    static void promise20_threeHeard() {
        likely(1, 3, 3, 3);
        likely(2, 0, 4, 7);
    }

    static void promise20_theFifthDoesNotCount() {
        likely(1, 3, 3, 4, 4, 4);
        likely(0, 5, 5, 5, 5, 2);
        is("the likeliest of four", heard(1, 2, 4, 2, 4, 4).dances(0, 0, 2), 2);
        is("the likeliest of three", heard(1, 4, 2, 4).dances(0, 0, 2), 4);
        is("the fourth counts", heard(1, 4, 2, 4, 2).dances(0, 0, 2), 2);
        is("the fourth alone is against it", heard(0, 4, 4, 4, 3).dances(0, 0, 2), NOT);
    }

    static void promise20_none0To7EndsIt() {
        likely(1, 6, 8, 1, 1);
        likely(1, 6, -1, 1, 1);
        likely(1, 8, 1);
        likely(1, -128, 1);
        likely(1, 6, 7, 1, 1);
        likely(1, 6, 0, 1, 1);
        is("the first that is none", heard(1, 8, 6).dances(0, 1, 1), 6);
        is("behind it", heard(1, 6, 8, 1, 1, 1).dances(0, 0, 2), 6);
        is("behind it", heard(1, 6, -1, 1, 1, 1).dances(0, 0, 2), 6);
    }

    static void promise20_ofLikeOnesTheLeast() {
        is("heard 0", heard(1, 0).dances(0, 0, 2), 1);
        is("heard 7", heard(1, 7).dances(0, 0, 2), 3);
        is("heard 2 and 4", heard(1, 2, 4).dances(0, 0, 2), 2);
        is("heard 4 and 2", heard(1, 4, 2).dances(0, 0, 2), 2);
        is("by chance alone", heard(6, 5, 5).dances(0, 0, 2), 1);
    }

    static void promise20_theLeastAndTheGreatestAreLikeliest() {
        is("heard 1", heard(1, 1).dances(0, 0, 2), 1);
        is("heard 6", heard(1, 6).dances(0, 0, 2), 6);
    }

    static void promise20_noneCanBe() {
        for (int part = 0; part <= 2; part++) {
            is("heard 0, part " + part, heard(0, 0).dances(0, 1, part), NOT);
            is("heard 3 and 5, part " + part, heard(0, 3, 5).dances(0, 1, part), NOT);
        }
    }

    static void promise20_badAheadOfNot() {
        is("j 0", heard(0, 0).dances(0, 0, 0), BAD_LONG);
        is("j 7", heard(0, 0).dances(0, 7, 1), BAD_LONG);
        is("part 3", heard(0, 0).dances(0, 1, 3), BAD_LONG);
    }

    static void promise20_flip0() {
        likely(0, 5, 5, 5, 5);
        is("that it was another", heard(0, 5).dances(0, 4, 0), 0);
        is("that it was another", heard(0, 5).dances(0, 4, 1), 1);
    }

    static void promise20_changesNothing() {
        changesNothing(x -> x.dances(2, 3, 0));
        changesNothing(x -> x.dances(4, 0, 2));
    }

    // ---- promise 21: right

    static void promise21_j1To6() {
        for (int flip = 0; flip <= 6; flip++) {
            BeesBooks x = flipped(flip);
            for (int j = 1; j <= 6; j++) {
                fraction("right(" + j + ") by " + flip, x.right(j, 0), x.right(j, 1),
                    BigInteger.valueOf(12 - flip).pow(3), BigInteger.valueOf(12 * 12 * 12));
            }
        }
    }

    static void promise21_j0Or7IsBad() {
        for (int j : NO_SUMS) {
            refused(x -> x.right(j, 0), BAD_LONG);
            refused(x -> x.right(j, 1), BAD_LONG);
        }
    }

    static void promise21_noSuchPartIsBad() {
        for (int part : NO_PARTS) {
            refused(x -> x.right(1, part), BAD_LONG);
        }
    }

    static void promise21_flip0IsSure() {
        is("right(1, 0)", flipped(0).right(1, 0), 1);
        is("right(1, 1)", flipped(0).right(1, 1), 1);
    }

    static void promise21_changesNothing() {
        changesNothing(x -> x.right(3, 1));
    }

    // ---- promise 22: read

    private static BeesBooks reading(int[] sales, int... bytes) {
        BeesBooks x = Scenes.byNumbers(sales);
        Scenes.bytes(x, 0, bytes);
        return x;
    }

    private static int[] of(int... numbers) {
        return numbers;
    }

    /** Cells 0 .. 5 hold 1 2 3 1 2 6; account 0 has 0, 3 and 5, account 1 the rest. */
    private static BeesBooks six(int... bytes) {
        return reading(of(1, 12, 13, 1, 12, 6), bytes);
    }

    private static void readIs(BeesBooks x, int account, int sum, int ways, int sure, int least) {
        is("read(0, " + account + ", " + sum + ", 0)", x.read(0, account, sum, 0), ways);
        is("read(0, " + account + ", " + sum + ", 1)", x.read(0, account, sum, 1), sure);
        is("read(0, " + account + ", " + sum + ", 2)", x.read(0, account, sum, 2), least);
    }

    static void promise22_noRowOfBytes() {
        for (int what = 0; what <= 2; what++) {
            int asked = what;
            wantsBytes((x, shelf) -> x.read(shelf, 0, 0, asked), NOTHING, KIND, BAD);
        }
    }

    static void promise22_x0And299() {
        BeesBooks x = reading(of(11), 0);
        readIs(x, 0, 0, 1, 0, 0);
        readIs(x, 0, 1, 1, 1, 1);
        readIs(x, 0, 299, 0, 0, NOT);
    }

    static void promise22_theGreatestBalance() {
        BeesBooks x = Scenes.full(6);
        Scenes.bytes(x, 0, 0, 48);
        readIs(x, 0, 294, 1, 3, 3);
        readIs(x, 0, 288, 2, 0, 1);
    }

    static void promise22_xBelow0IsBad() {
        refused(x -> x.read(4, 0, -1, 0), BAD);
        refused(x -> x.read(4, 0, LEAST, 2), BAD);
    }

    static void promise22_x300IsBad() {
        refused(x -> x.read(4, 0, 300, 0), BAD);
        refused(x -> x.read(4, 0, MOST, 2), BAD);
    }

    static void promise22_noSuchWhatIsBad() {
        for (int what : new int[] {-1, 3, LEAST, MOST}) {
            refused(x -> x.read(4, 0, 1, what), BAD);
        }
    }

    static void promise22_noSuchAccountIsBad() {
        for (int account : NO_ACCOUNTS) {
            refused(x -> x.read(4, account, 1, 0), BAD);
        }
        BeesBooks x = new BeesBooks();
        Scenes.bytes(x, 0);
        is("without accounts", x.read(0, 0, 0, 0), BAD);
    }

    static void promise22_theLastAccount() {
        readIs(reading(of(1, 53), 0, 1), 5, 3, 1, 2, 2);
    }

    static void promise22_badAheadOfNothingAndKind() {
        refused(x -> x.read(0, 0, 300, 0), BAD);
        refused(x -> x.read(1, 3, 0, 0), BAD);
        refused(x -> x.read(3, 0, 0, 3), BAD);
    }

    static void promise22_anEmptyRow() {
        readIs(six(), 0, 8, 1, 0, 0);
        readIs(six(), 0, 7, 0, 0, NOT);
    }

    static void promise22_noneIsNot() {
        readIs(six(0, 1, 2, 3), 0, 5, 0, 0, NOT);
        readIs(six(0, 1, 2, 3), 0, 14, 0, 0, NOT);
    }

    static void promise22_justX() {
        readIs(six(0, 1, 2, 3), 0, 6, 1, 0, 0);
        readIs(six(0, 1, 2, 3), 0, 13, 1, 15, 15);
        readIs(six(0, 1, 2, 3), 0, 9, 3, 0, 3);
        readIs(six(0, 1, 2, 3), 0, 12, 2, 6, 7);
        readIs(six(0, 1, 2, 3), 1, 2, 1, 0, 0);
        readIs(six(0, 1, 2, 3), 2, 7, 1, 15, 15);
        readIs(six(0, 1, 2, 3), 2, 0, 1, 0, 0);
    }

    static void promise22_bitsByPlacesNotByCells() {
        readIs(six(5, 2, 1), 0, 2, 1, 0, 0);
        readIs(six(5, 2, 1), 0, 8, 1, 1, 1);
        readIs(six(5, 2, 1), 0, 7, 1, 6, 6);
        readIs(six(2, 1), 1, 5, 1, 1, 1);
    }

    static void promise22_tenAtMost() {
        int[] cells = of(0, 1, 2, 3, 4, 5, 6, 7, 8, 9, 10, 11);
        BeesBooks x = Scenes.full(1);
        Scenes.bytes(x, 0, cells);
        readIs(x, 0, 49, 1, 1023, 1023);
        readIs(x, 0, 39, 1, 0, 0);
        readIs(x, 0, 38, 0, 0, NOT);
        readIs(x, 0, 44, 252, 0, 31);
        readIs(x, 1, 10, 1, 1023, 1023);
        readIs(x, 1, 11, 0, 0, NOT);
    }

    static void promise22_nineAndTen() {
        BeesBooks x = Scenes.full(1);
        Scenes.bytes(x, 0, 0, 1, 2, 3, 4, 5, 6, 7, 8);
        readIs(x, 1, 9, 1, 511, 511);
        readIs(x, 1, 10, 0, 0, NOT);
        Scenes.bytes(x, 0, 0, 1, 2, 3, 4, 5, 6, 7, 8, 48);
        readIs(x, 1, 10, 1, 1023, 1023);
    }

    static void promise22_noCellEndsIt() {
        readIs(six(0, 49, 1), 0, 8, 1, 1, 1);
        readIs(six(0, 49, 1), 0, 10, 0, 0, NOT);
        readIs(six(0, -1, 1), 0, 10, 0, 0, NOT);
        readIs(six(-1, 1), 0, 8, 1, 0, 0);
        readIs(six(-128, 1), 0, 8, 1, 0, 0);
    }

    static void promise22_whatHoldsNothingEndsIt() {
        readIs(six(0, 6, 1), 0, 8, 1, 1, 1);
        readIs(six(0, 6, 1), 0, 10, 0, 0, NOT);
        readIs(six(48, 1), 0, 10, 0, 0, NOT);
    }

    static void promise22_whatCameBeforeEndsIt() {
        readIs(six(1, 0, 1, 2), 0, 10, 1, 3, 3);
        readIs(six(1, 0, 1, 2), 0, 13, 0, 0, NOT);
        readIs(six(1, 1, 2), 0, 10, 1, 1, 1);
        readIs(six(1, 0, 0, 2), 0, 13, 0, 0, NOT);
    }

    static void promise22_oneRowAfterTheOther() {
        BeesBooks x = six(0, 1, 2, 3);
        readIs(x, 0, 13, 1, 15, 15);
        Scenes.bytes(x, 0, 5, 0);
        readIs(x, 0, 8, 1, 3, 3);
        readIs(x, 0, 13, 0, 0, NOT);
        Scenes.bytes(x, 0);
        readIs(x, 0, 8, 1, 0, 0);
    }

    static void promise22_theFirstAndTheLastCell() {
        BeesBooks x = Scenes.laid(0, 1, 48, 12);
        Scenes.bytes(x, 0, 48, 0);
        readIs(x, 0, 1, 1, 2, 2);
        readIs(x, 0, 3, 1, 3, 3);
    }

    static void promise22_changesNothing() {
        changesNothing(x -> x.read(4, 0, 5, 0));
        changesNothing(x -> x.read(4, 0, 299, 2));
    }

    // ---- promise 23: open

    static void promise23_noRowOfBytes() {
        wantsBytes((x, shelf) -> x.open(shelf, 0), NOTHING, KIND, BAD);
    }

    static void promise23_noSuchAccountIsBad() {
        for (int account : NO_ACCOUNTS) {
            refused(x -> x.open(4, account), BAD);
        }
        BeesBooks x = new BeesBooks();
        Scenes.bytes(x, 0);
        is("without accounts", x.open(0, 0), BAD);
    }

    static void promise23_badAheadOfNothingAndKind() {
        refused(x -> x.open(0, 3), BAD);
        refused(x -> x.open(1, -1), BAD);
        refused(x -> x.open(3, 3), BAD);
    }

    private static void openIs(BeesBooks x, int account, int bits) {
        is("open(0, " + account + ")", x.open(0, account), bits);
    }

    static void promise23_anEmptyRow() {
        openIs(six(), 0, 0);
        openIs(Scenes.with(3), 0, NOTHING);
    }

    static void promise23_noneToOpen() {
        openIs(six(0), 0, 0);
        openIs(six(0, 1), 0, 0);
        openIs(six(0, 3), 0, 0);
        openIs(six(1, 4), 2, 0);
        openIs(reading(of(6, 16), 0, 1), 2, 0);
    }

    static void promise23_ofTwoTheLeast() {
        openIs(reading(of(1, 11), 0, 1), 0, 1);
        openIs(reading(of(1, 11), 0, 1), 1, 1);
        openIs(reading(of(1, 11), 1, 0), 0, 1);
    }

    static void promise23_theFewestAheadOfTheLeast() {
        // Three of 1: that the last is its own tells all; of the others two must be opened.
        openIs(reading(of(11, 11, 1), 0, 1, 2), 0, 4);
        openIs(reading(of(1, 11, 11), 0, 1, 2), 0, 1);
        openIs(reading(of(11, 1, 11), 0, 1, 2), 0, 2);
    }

    static void promise23_theLeastOfLikeMany() {
        openIs(reading(of(1, 1, 11, 11), 0, 1, 2, 3), 0, 3);
        openIs(reading(of(11, 11, 1, 1), 0, 1, 2, 3), 0, 3);
        openIs(reading(of(1, 11, 1, 11), 0, 1, 2, 3), 0, 5);
        openIs(reading(of(11, 1, 11, 1), 0, 1, 2, 3), 0, 5);
    }

    static void promise23_setsOfUnlikeSizes() {
        openIs(reading(of(13, 2, 1), 0, 1, 2), 0, 1);
        openIs(reading(of(1, 2, 13, 11, 21), 0, 1, 2, 3, 4), 0, 3);
        openIs(reading(of(1, 2, 13, 11, 21), 0, 1, 2, 3, 4), 1, 10);
    }

    static void promise23_whatIsReadDoesNotCount() {
        openIs(reading(of(1, 11, 6, 16), 0, 1), 0, 1);
        openIs(reading(of(11, 11, 6, 16), 0, 1), 0, 0);
        openIs(reading(of(1, 1, 6, 16), 0, 1), 0, 0);
    }

    static void promise23_tenAtMost() {
        BeesBooks x = reading(of(11, 11, 11, 11, 11, 11, 11, 11, 11, 11, 1), 0, 1, 2, 3, 4, 5, 6, 7, 8, 9, 10);
        openIs(x, 0, 0);
        BeesBooks y = reading(of(11, 11, 11, 11, 11, 11, 11, 11, 11, 1, 1), 0, 1, 2, 3, 4, 5, 6, 7, 8, 9, 10);
        openIs(y, 0, 512);
    }

    static void promise23_fiveOfTen() {
        openIs(reading(of(1, 1, 1, 1, 1, 11, 11, 11, 11, 11), 0, 1, 2, 3, 4, 5, 6, 7, 8, 9), 0, 31);
        openIs(reading(of(1, 11, 1, 11, 1, 11, 1, 11, 1, 11), 0, 1, 2, 3, 4, 5, 6, 7, 8, 9), 0, 341);
        openIs(reading(of(11, 1, 11, 1, 11, 1, 11, 1, 11, 1), 0, 1, 2, 3, 4, 5, 6, 7, 8, 9), 0, 341);
    }

    static void promise23_oneRowAfterTheOther() {
        BeesBooks x = Scenes.byNumbers(1, 1, 11, 11);
        Scenes.bytes(x, 0, 0, 1);
        Scenes.bytes(x, 1, 0, 2);
        Scenes.bytes(x, 2, 2, 3);
        is("open(0, 0)", x.open(0, 0), 0);
        is("open(1, 0)", x.open(1, 0), 1);
        is("open(2, 0)", x.open(2, 0), 0);
        is("open(1, 1)", x.open(1, 1), 1);
        is("open(0, 1)", x.open(0, 1), 0);
    }

    static void promise23_whatEndsTheRow() {
        openIs(reading(of(1, 11), 0, 49, 1), 0, 0);
        openIs(reading(of(1, 11), 0, -1, 1), 0, 0);
        openIs(reading(of(1, 11), 0, 2, 1), 0, 0);
        openIs(reading(of(1, 11), 0, 0, 1), 0, 0);
    }

    static void promise23_changesNothing() {
        changesNothing(x -> x.open(4, 0));
    }

    // ---- promise 24: pass

    static void promise24_n0To8ByAllGuards() {
        for (int guards = 0; guards <= 12; guards++) {
            for (int n = 0; n <= 8; n++) {
                BeesBooks x = guarded(guards);
                fraction("pass(" + n + ", 0) by " + guards, x.pass(n, 0, 0), x.pass(n, 0, 1),
                    BigInteger.valueOf(12 - guards).pow(n), BigInteger.valueOf(12).pow(n));
                fraction("pass(" + n + ", 1) by " + guards, x.pass(n, 1, 0), x.pass(n, 1, 1),
                    BigInteger.valueOf(n * (12 - guards)), BigInteger.valueOf(12));
            }
        }
    }

    static void promise24_inLowestTerms() {
        is("pass(0, 0, 0)", guarded(12).pass(0, 0, 0), 1);
        is("pass(0, 0, 1)", guarded(12).pass(0, 0, 1), 1);
        is("pass(0, 1, 0)", guarded(6).pass(0, 1, 0), 0);
        is("pass(0, 1, 1)", guarded(6).pass(0, 1, 1), 1);
        is("pass(8, 0, 0)", guarded(12).pass(8, 0, 0), 0);
        is("pass(8, 0, 1)", guarded(12).pass(8, 0, 1), 1);
        is("pass(8, 0, 0)", guarded(1).pass(8, 0, 0), 214358881);
        is("pass(8, 0, 1)", guarded(1).pass(8, 0, 1), 429981696);
        is("pass(3, 1, 0)", guarded(6).pass(3, 1, 0), 3);
        is("pass(3, 1, 1)", guarded(6).pass(3, 1, 1), 2);
    }

    static void promise24_nBelow0Or9IsBad() {
        for (int n : new int[] {-1, 9, LEAST, MOST}) {
            refused(x -> x.pass(n, 0, 0), BAD_LONG);
            refused(x -> x.pass(n, 1, 1), BAD_LONG);
        }
    }

    static void promise24_noSuchWhatIsBad() {
        for (int what : new int[] {-1, 2, LEAST, MOST}) {
            refused(x -> x.pass(1, what, 0), BAD_LONG);
            refused(x -> x.pass(1, what, 1), BAD_LONG);
        }
    }

    static void promise24_noSuchPartIsBad() {
        for (int part : NO_PARTS) {
            refused(x -> x.pass(1, 0, part), BAD_LONG);
            refused(x -> x.pass(1, 1, part), BAD_LONG);
        }
    }

    static void promise24_changesNothing() {
        changesNothing(x -> x.pass(8, 0, 1));
    }

    // ---- promise 25: mostFalse

    static void promise25_x0To12ByAllGuards() {
        for (int guards = 0; guards <= 12; guards++) {
            for (int twelfths = 0; twelfths <= 12; twelfths++) {
                int most = 0;
                for (int n = 1; n <= 8; n++) {
                    BigInteger all = BigInteger.valueOf(12 - guards).pow(n).multiply(BigInteger.valueOf(12));
                    BigInteger wanted = BigInteger.valueOf(12).pow(n).multiply(BigInteger.valueOf(twelfths));
                    most = all.compareTo(wanted) >= 0 ? n : most;
                }
                is("mostFalse(" + twelfths + ") by " + guards, guarded(guards).mostFalse(twelfths), most);
            }
        }
    }

    static void promise25_xBelow0IsBad() {
        refused(x -> x.mostFalse(-1), BAD);
        refused(x -> x.mostFalse(LEAST), BAD);
    }

    static void promise25_x13IsBad() {
        refused(x -> x.mostFalse(13), BAD);
        refused(x -> x.mostFalse(MOST), BAD);
    }

    static void promise25_justX() {
        is("mostFalse(6)", guarded(6).mostFalse(6), 1);
        is("mostFalse(7)", guarded(6).mostFalse(7), 0);
        is("mostFalse(3)", guarded(6).mostFalse(3), 2);
        is("mostFalse(4)", guarded(6).mostFalse(4), 1);
    }

    static void promise25_x0And12() {
        is("mostFalse(0)", guarded(12).mostFalse(0), 8);
        is("mostFalse(1)", guarded(12).mostFalse(1), 0);
        is("mostFalse(12)", guarded(0).mostFalse(12), 8);
        is("mostFalse(12)", guarded(1).mostFalse(12), 0);
        is("mostFalse(5)", guarded(1).mostFalse(5), 8);
        is("mostFalse(6)", guarded(1).mostFalse(6), 7);
    }

    static void promise25_changesNothing() {
        changesNothing(x -> x.mostFalse(3));
    }

    // ---- promise 26: judge

    private static void judged(int first, int... bytes) {
        BeesBooks x = Scenes.byNumbers();
        Scenes.bytes(x, 0, bytes);
        is("judge of " + java.util.Arrays.toString(bytes), x.judge(0), first);
    }

    static void promise26_noRowOfBytes() {
        wantsBytes((x, shelf) -> x.judge(shelf), NOTHING, KIND, BAD);
    }

    static void promise26_allWouldBe() {
        judged(NOT);
        judged(NOT, 0, 1, 0);
        judged(NOT, 0, 1, 0, 5, 6, 1, 2, 2, 2);
    }

    static void promise26_anotherCell() {
        judged(0, 0, 1, 1);
        judged(1, 0, 1, 0, 0, 1, 0);
        judged(1, 0, 1, 0, 0, 1, 2);
        judged(2, 0, 1, 0, 0, 1, 1, 0, 1, 3);
        judged(0, 0, 1, 1, 0, 1, 3);
    }

    static void promise26_noAccount() {
        judged(NOT, 5, 1, 0);
        judged(0, 6, 1, 0);
        judged(0, -1, 1, 0);
        judged(1, 0, 1, 0, 6, 1, 1);
        BeesBooks x = Scenes.with(24);
        Scenes.bytes(x, 0, 1, 1, 24);
        is("account 1 of one", x.judge(0), 0);
        BeesBooks y = new BeesBooks();
        Scenes.bytes(y, 0, 0, 1, 0);
        is("account 0 of none", y.judge(0), 0);
    }

    static void promise26_noSum() {
        judged(NOT, 0, 6, 0);
        judged(0, 0, 0, 0);
        judged(0, 0, 7, 0);
        judged(0, 0, -1, 0);
        judged(1, 0, 1, 0, 0, 7, 1);
    }

    static void promise26_aThreesEndThatLacks() {
        judged(0, 0);
        judged(0, 0, 1);
        judged(1, 0, 1, 0, 0);
        judged(1, 0, 1, 0, 0, 1);
        judged(0, 0, 1, 1, 0, 1);
    }

    static void promise26_aThreesEndThatLacksThoughCell0IsDue() {
        // Were what lacks read as 0, these threes would be as they are written.
        judged(0, 0, 3);
        BeesBooks x = Scenes.with(24, 0);
        Scenes.bytes(x, 0, 0, 1, 24, 1, 1);
        is("the second's end lacks", x.judge(0), 1);
        Scenes.bytes(x, 0, 0, 1, 24, 0, 1, 17, 1, 1);
        is("the third's end lacks", x.judge(0), 2);
        Scenes.bytes(x, 0, 0, 1, 24, 1, 1, 0);
        is("no end lacks", x.judge(0), NOT);
    }

    static void promise26_noCellIsEmpty() {
        for (int cell : of(-2, -1, 0, 48, 49)) {
            BeesBooks x = Scenes.full(1);
            Scenes.bytes(x, 0, 0, 1, cell);
            is("cell " + cell, x.judge(0), 0);
        }
        BeesBooks y = Scenes.full(1);
        y.fly(480);
        Scenes.bytes(y, 0, 0, 1, 48, 0, 1, -2);
        is("the last cell, then none", y.judge(0), 1);
    }

    static void promise26_noCellNumber() {
        judged(0, 0, 1, 49);
        judged(0, 0, 1, -1);
        judged(0, 0, 1, -2);
    }

    static void promise26_twentyThrees() {
        int[] bytes = new int[60];
        for (int i = 0; i < 20; i++) {
            bytes[3 * i + 1] = 1;
            bytes[3 * i + 2] = i;
        }
        judged(NOT, bytes);
        bytes[59] = 20;
        judged(19, bytes);
        bytes[2] = 20;
        judged(0, bytes);
    }

    static void promise26_fiftyNineBytes() {
        int[] bytes = new int[59];
        for (int i = 0; i < 59; i++) {
            bytes[i] = i % 3 == 1 ? 1 : i % 3 == 2 ? i / 3 : 0;
        }
        judged(19, bytes);
    }

    static void promise26_changesNothing() {
        changesNothing(x -> x.judge(2));
        changesNothing(x -> x.judge(4));
        refused(() -> {
            BeesBooks x = Scenes.byNumbers();
            Scenes.bytes(x, 0, 0, 1, 0);
            return x;
        }, x -> x.judge(0), NOT);
    }

    // ---- promise 27: drawn

    private static int sumDrawn(int seed) {
        int z = (seed * 1103515245 + 12345) * 1103515245 + 12345;
        return 1 + (z >>> 8) % 6;
    }

    static void promise27_n1() {
        for (int seed : new int[] {0, 1, -1, 7, 1 << 20, LEAST, MOST, LEAST + 1, MOST - 1, 123456789, -987654321}) {
            is("drawn(" + seed + ", 100, 0)", Scenes.with(24).drawn(seed, 100, 0), sumDrawn(seed));
            is("drawn(" + seed + ", 100, 1)", Scenes.with(24).drawn(seed, 100, 1), 0);
            is("drawn(" + seed + ", 101, 0)", Scenes.with(24).drawn(seed, 101, 0), 0);
            is("drawn(" + seed + ", 149, 0)", Scenes.with(24).drawn(seed, 149, 0), 0);
        }
    }

    static void promise27_n2() {
        for (int seed : new int[] {0, -1, LEAST, MOST, 99}) {
            int next = seed;
            for (int i = 0; i < 2; i++) {
                next = next * 1103515245 + 12345;
            }
            int both = sumDrawn(seed) + sumDrawn(next);
            is("drawn(" + seed + ", 200, 0)", Scenes.with(24).drawn(seed, 200, 0), both);
            int greater = Math.max(sumDrawn(seed), sumDrawn(next));
            is("drawn(" + seed + ", 201, 0)", Scenes.with(24).drawn(seed, 201, 0), greater);
        }
    }

    static void promise27_n0IsBad() {
        refused(x -> x.drawn(1, 0, 0), BAD);
        refused(x -> x.drawn(1, 49, 0), BAD);
        refused(x -> x.drawn(1, 99, 0), BAD);
    }

    static void promise27_n60() {
        is("drawn(1, 6000, 1)", Scenes.with(24).drawn(1, 6000, 1), 11);
        is("drawn(1, 6049, 0)", Scenes.with(24).drawn(1, 6049, 0), 0);
        is("drawn(1, 6049, 1)", Scenes.with(24).drawn(1, 6049, 1), 11);
        is("drawn(1, 4900, 1)", Scenes.with(24).drawn(1, 4900, 1), 0);
        is("drawn(1, 5000, 1)", Scenes.with(24).drawn(1, 5000, 1), 1);
    }

    static void promise27_n61IsBad() {
        refused(x -> x.drawn(1, 6100, 0), BAD);
        refused(x -> x.drawn(1, 6149, 1), BAD);
        refused(x -> x.drawn(1, MOST, 1), BAD);
    }

    static void promise27_w50IsBad() {
        refused(x -> x.drawn(1, 150, 0), BAD);
        refused(x -> x.drawn(1, 199, 0), BAD);
        refused(x -> x.drawn(1, 6050, 1), BAD);
    }

    static void promise27_below0IsBad() {
        for (int nw : new int[] {-1, -100, -149, -6000, LEAST}) {
            refused(x -> x.drawn(1, nw, 0), BAD);
        }
    }

    static void promise27_noSuchWhatIsBad() {
        for (int what : new int[] {-1, 2, LEAST, MOST}) {
            refused(x -> x.drawn(1, 100, what), BAD);
        }
    }

    static void promise27_noAccounts() {
        refused(BeesBooks::new, x -> x.drawn(1, 100, 0), STATE);
        refused(BeesBooks::new, x -> x.drawn(1, 6049, 1), STATE);
    }

    static void promise27_badAheadOfState() {
        refused(BeesBooks::new, x -> x.drawn(1, 99, 0), BAD);
        refused(BeesBooks::new, x -> x.drawn(1, 150, 0), BAD);
        refused(BeesBooks::new, x -> x.drawn(1, 6100, 0), BAD);
        refused(BeesBooks::new, x -> x.drawn(1, 100, 2), BAD);
    }

    static void promise27_whatFindsNoCellIsLost() {
        is("drawn(9, 6000, 1)", Scenes.full(2).drawn(9, 6000, 1), 60);
        is("drawn(9, 6000, 0)", Scenes.full(2).drawn(9, 6000, 0), 98);
        is("drawn(9, 100, 1)", Scenes.full(2).drawn(9, 100, 1), 1);
        is("drawn(9, 101, 0)", Scenes.full(2).drawn(9, 101, 0), 96);
        BeesBooks x = Scenes.full(2);
        x.fly(240);
        is("drawn(9, 200, 1)", x.drawn(9, 200, 1), 1);
        is("drawn(9, 200, 0)", x.drawn(9, 200, 0), 96 + sumDrawn(9));
    }

    static void promise27_amongAllAccounts() {
        int[] doors = {24, 0, 48, 6, 42, 3};
        for (int accounts = 1; accounts <= 6; accounts++) {
            for (int seed = -40; seed < 40; seed++) {
                BeesBooks x = new BeesBooks();
                Model model = new Model();
                for (int i = 0; i < accounts; i++) {
                    x.account(doors[i]);
                    model.account(doors[i]);
                }
                int nw = 100 * (20 + (seed & 15)) + (seed & 7) * 2;
                is("drawn(" + seed * 77777 + ", " + nw + ", 0) of " + accounts,
                    x.drawn(seed * 77777, nw, 0), model.drawn(seed * 77777, nw, 0));
            }
        }
    }

    static void promise27_changesNothing() {
        changesNothing(x -> x.drawn(5, 6049, 0));
        changesNothing(x -> x.drawn(5, 100, 1));
    }
}
