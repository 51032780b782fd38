/** Promise 7: least. */
public final class Promise07LeastTest {
    public static void main(String[] args) {
        Due.test("promise 7: the years with the greatest weights", Promise07LeastTest::greatestWeights);
        Due.test("promise 7: of equal ones the earlier", Promise07LeastTest::earlierOnes);
        Due.test("promise 7: at least the share: one that is met just", Promise07LeastTest::metJust);
        Due.test("promise 7: at least the share: one that is just not met", Promise07LeastTest::justNotMet);
        Due.test("promise 7: at least the share, exactly, of great weights", Promise07LeastTest::exactly);
        Due.test("promise 7: at least the share, exactly, of the greatest weights", Promise07LeastTest::greatest);
        Due.test("promise 7: just as many as it takes: none for above 0", Promise07LeastTest::none);
        Due.test("promise 7: just as many as it takes: for all, no year with a weight of 0", Promise07LeastTest::all);
        Due.test("promise 7: how many spans: the longest parts of years one behind the other",
            Promise07LeastTest::longestParts);
        Due.test("promise 7: how many spans: years -1, 0 and 1 are one behind the other", Promise07LeastTest::yearNull);
        Due.test("promise 7: how many spans: as many as there can be", Promise07LeastTest::mostSpans);
        Due.test("promise 7: a row of one year", Promise07LeastTest::oneYear);
        Due.test("promise 7: a row of 48 years", Promise07LeastTest::allYears);
        Due.test("promise 7: the row stays as it is", Promise07LeastTest::rowStays);
        Due.test("promise 7: IndexOutOfBoundsException", Promise07LeastTest::noSuchRow);
        Due.test("promise 7: IllegalArgumentException: below is not 1 ..", Promise07LeastTest::belowTooSmall);
        Due.test("promise 7: IllegalArgumentException: below is not .. 1000000", Promise07LeastTest::belowTooGreat);
        Due.test("promise 7: IllegalArgumentException: above not 0 ..", Promise07LeastTest::aboveTooSmall);
        Due.test("promise 7: IllegalArgumentException: above not .. below", Promise07LeastTest::aboveTooGreat);
        Due.test("promise 7: ArithmeticException: all weights of the row are 0", Promise07LeastTest::allNull);
        Due.test("promise 7: ArithmeticException: all weights of the row are 0, for above 0 too",
            Promise07LeastTest::allNullAboveNull);
        Due.test("promise 7: IndexOutOfBoundsException, then IllegalArgumentException, then ArithmeticException",
            Promise07LeastTest::order);
        Due.test("promise 7: a refused call changes nothing", Promise07LeastTest::changesNothing);
        Due.end("Promise07LeastTest");
    }

    /** least() of row 0, with the spans that are due. */
    private static void spansAre(YearFractions x, int above, int below, String want) {
        spansAre(x, 0, above, below, want);
    }

    private static void spansAre(YearFractions x, int row, int above, int below, String want) {
        String call = "least(" + row + ", " + above + ", " + below + ")";
        int many = want.isEmpty() ? 0 : want.split(" ").length;
        Due.is(call, many, () -> x.least(row, above, below));
        Due.shows("the spans of " + call, want, () -> Picture.spans(x));
    }

    private static void greatestWeights() {
        YearFractions x = Made.with(-2, 10, 0, 50, 30, 9);
        spansAre(x, 1, 1000000, "0..0");
        spansAre(x, 6, 10, "0..1");
        spansAre(x, 9, 10, "-2..-2 0..1");
        spansAre(x, 1, 1, "-2..-2 0..2");
        YearFractions y = Made.with(1, 1000000000L, 999999999L, 2, Made.E18);
        spansAre(y, 1, 2, "4..4");
        spansAre(y, 1, 1, "1..4");
    }

    private static void earlierOnes() {
        YearFractions x = Made.with(1, 1, 7, 2, 7, 7);
        spansAre(x, 7, 24, "2..2");
        spansAre(x, 14, 24, "2..2 4..4");
        spansAre(x, 21, 24, "2..2 4..5");
        spansAre(x, 23, 24, "2..5");
        YearFractions y = Made.with(-1, 4, 4, 4);
        spansAre(y, 1, 3, "-1..-1");
        spansAre(y, 2, 3, "-1..0");
        spansAre(y, 3, 3, "-1..1");
    }

    private static void metJust() {
        YearFractions x = Made.with(1, 20, 50, 30);
        spansAre(x, 1, 2, "2..2");
        spansAre(x, 500000, 1000000, "2..2");
        spansAre(x, 8, 10, "2..3");
        spansAre(x, 1000000, 1000000, "1..3");
    }

    private static void justNotMet() {
        YearFractions x = Made.with(1, 20, 50, 30);
        spansAre(x, 500001, 1000000, "2..3");
        spansAre(x, 800001, 1000000, "1..3");
        YearFractions y = Made.with(1, 4, 4, 4);
        spansAre(y, 333333, 1000000, "1..1");
        spansAre(y, 333334, 1000000, "1..2");
        spansAre(y, 666666, 1000000, "1..2");
        spansAre(y, 666667, 1000000, "1..3");
        YearFractions z = Made.with(1, 1, 999999, 0);
        spansAre(z, 999999, 1000000, "2..2");
        spansAre(z, 1000000, 1000000, "1..2");
    }

    // 10 to the 36th and a bit together: no share of it may be rounded.
    private static void exactly() {
        YearFractions x = Made.with(1, Made.E18 / 2, Made.E18 / 2, 1);
        Made.row(x, 1, Made.E18, Made.E18, 1);
        x.times(0, 1, 1);
        spansAre(x, 2, 1, 2, "1..2");
        x.weight(0, 3, 0);
        x.times(0, 1, 1);
        spansAre(x, 3, 1, 2, "1..1");
        YearFractions y = Made.with(1, Long.MAX_VALUE, Long.MAX_VALUE - 1);
        spansAre(y, 1, 2, "1..1");
        spansAre(y, 500001, 1000000, "1..2");
        YearFractions z = Made.with(1, Long.MAX_VALUE - 1, Long.MAX_VALUE);
        spansAre(z, 1, 2, "2..2");
    }

    private static void greatest() {
        YearFractions x = Made.greatest(1, 48);
        spansAre(x, 3, 1, 48, "1..1");
        spansAre(x, 3, 47, 48, "1..47");
        spansAre(x, 3, 1000000, 1000000, "1..48");
        x.weight(3, 48, 0);
        spansAre(x, 3, 1, 1, "1..47");
        x.weight(3, 48, 1);
        spansAre(x, 3, 1, 1, "1..48");
        spansAre(x, 3, 999999, 1000000, "1..47");
    }

    private static void none() {
        YearFractions x = Made.with(1, 5, 6);
        spansAre(x, 0, 1, "");
        spansAre(x, 1, 1, "1..2");
        spansAre(x, 0, 1000000, "");
    }

    private static void all() {
        YearFractions x = Made.with(-9999, 0, 0, 3, 0, 1, 0);
        spansAre(x, 1, 1, "-9997..-9997 -9995..-9995");
        spansAre(x, 1000000, 1000000, "-9997..-9997 -9995..-9995");
    }

    private static void longestParts() {
        YearFractions x = Made.with(1, 9, 9, 9, 1, 9, 9, 1, 9);
        spansAre(x, 54, 56, "1..3 5..6 8..8");
        spansAre(x, 55, 56, "1..6 8..8");
        spansAre(x, 56, 56, "1..8");
    }

    private static void yearNull() {
        YearFractions x = Made.with(-2, 1, 9, 9, 9, 1);
        spansAre(x, 27, 29, "-1..1");
        YearFractions y = Made.with(-1, 9, 0, 9);
        spansAre(y, 1, 1, "-1..-1 1..1");
    }

    private static void mostSpans() {
        YearFractions x = new YearFractions();
        x.row(-20, 48);
        StringBuilder early = new StringBuilder();
        StringBuilder late = new StringBuilder();
        for (int i = 0; i < 24; i++) {
            int year = -20 + 2 * i;
            x.weight(0, year, i + 1);
            early.append(i == 0 ? "" : " ").append(year).append("..").append(year);
            late.append(i == 0 ? "" : " ").append(year + 1).append("..").append(year + 1);
        }
        spansAre(x, 1, 1, early.toString());
        for (int i = 0; i < 24; i++) {
            x.weight(0, -20 + 2 * i, 0);
            x.weight(0, -19 + 2 * i, 24 - i);
        }
        spansAre(x, 1, 1, late.toString());
    }

    private static void oneYear() {
        YearFractions x = Made.with(9999, 1);
        spansAre(x, 1, 1000000, "9999..9999");
        spansAre(x, 1, 1, "9999..9999");
        spansAre(x, 0, 1, "");
    }

    private static void allYears() {
        YearFractions x = new YearFractions();
        x.row(9952, 48);
        for (int year = 9952; year <= 9999; year++) {
            x.weight(0, year, year);
        }
        spansAre(x, 1, 1, "9952..9999");
        spansAre(x, 1, 1000000, "9999..9999");
        spansAre(x, 1, 2, "9976..9999");
    }

    private static void rowStays() {
        YearFractions x = Made.with(1, 3, 9, 5);
        x.least(0, 1, 2);
        x.least(0, 1, 1);
        Due.shows("the row", "1..3: 3 9 5", () -> Picture.row(x, 0));
        Due.is("the next row", 1, () -> x.row(1, 1));
    }

    private static void noSuchRow() {
        YearFractions x = Made.with(1, 1);
        for (int row : Made.noRows(1)) {
            Due.index("least(" + row + ", 1, 1)", () -> x.least(row, 1, 1));
            Due.index("least(" + row + ", 0, 1)", () -> x.least(row, 0, 1));
        }
    }

    private static void belowTooSmall() {
        YearFractions x = Made.with(1, 1);
        int[] wrong = {0, -1, -1000000, Integer.MIN_VALUE};
        for (int below : wrong) {
            Due.argument("least(0, 0, " + below + ")", () -> x.least(0, 0, below));
            Due.argument("least(0, " + below + ", " + below + ")", () -> x.least(0, below, below));
        }
        Due.is("least(0, 1, 1)", 1, () -> x.least(0, 1, 1));
        Due.is("least(0, 0, 1)", 0, () -> x.least(0, 0, 1));
    }

    private static void belowTooGreat() {
        YearFractions x = Made.with(1, 1);
        int[] wrong = {1000001, 2000000, Integer.MAX_VALUE};
        for (int below : wrong) {
            Due.argument("least(0, 0, " + below + ")", () -> x.least(0, 0, below));
            Due.argument("least(0, 1, " + below + ")", () -> x.least(0, 1, below));
            Due.argument("least(0, " + below + ", " + below + ")", () -> x.least(0, below, below));
        }
        Due.is("least(0, 1000000, 1000000)", 1, () -> x.least(0, 1000000, 1000000));
    }

    private static void aboveTooSmall() {
        YearFractions x = Made.with(1, 1);
        int[] wrong = {-1, -1000000, Integer.MIN_VALUE};
        for (int above : wrong) {
            Due.argument("least(0, " + above + ", 1)", () -> x.least(0, above, 1));
            Due.argument("least(0, " + above + ", 1000000)", () -> x.least(0, above, 1000000));
        }
        Due.is("least(0, 0, 1)", 0, () -> x.least(0, 0, 1));
    }

    private static void aboveTooGreat() {
        YearFractions x = Made.with(1, 1);
        Due.argument("least(0, 2, 1)", () -> x.least(0, 2, 1));
        Due.argument("least(0, 8, 7)", () -> x.least(0, 8, 7));
        Due.argument("least(0, 1000001, 1000000)", () -> x.least(0, 1000001, 1000000));
        Due.argument("least(0, the greatest, 1000000)", () -> x.least(0, Integer.MAX_VALUE, 1000000));
        Due.is("least(0, 7, 7)", 1, () -> x.least(0, 7, 7));
    }

    private static void allNull() {
        YearFractions x = Made.with(1, 0, 0, 0);
        Due.arithmetic("least(0, 1, 2)", () -> x.least(0, 1, 2));
        Due.arithmetic("least(0, 1, 1)", () -> x.least(0, 1, 1));
        x.weight(0, 3, 1);
        Due.is("with one weight", 1, () -> x.least(0, 1, 1));
        x.weight(0, 3, 0);
        Due.arithmetic("without it", () -> x.least(0, 1, 1));
    }

    private static void allNullAboveNull() {
        YearFractions x = Made.with(1, 0, 0, 0);
        Due.arithmetic("least(0, 0, 1)", () -> x.least(0, 0, 1));
        Due.arithmetic("least(0, 0, 1000000)", () -> x.least(0, 0, 1000000));
    }

    private static void order() {
        YearFractions x = Made.with(1, 0);
        int[][] wrong = {{0, 0}, {1, 0}, {0, -1}, {0, 1000001}, {-1, 1}, {2, 1}};
        for (int[] w : wrong) {
            String share = w[0] + ", " + w[1] + ")";
            Due.index("least(1, " + share, () -> x.least(1, w[0], w[1]));
            Due.argument("least(0, " + share + " of weights 0", () -> x.least(0, w[0], w[1]));
        }
    }

    private static void changesNothing() {
        Due.changesNothing("least(6, 1, 1)", Due.INDEX, Made::several, x -> x.least(6, 1, 1));
        Due.changesNothing("least(0, 1, 0)", Due.ARGUMENT, Made::several, x -> x.least(0, 1, 0));
        Due.changesNothing("least(0, 0, 1000001)", Due.ARGUMENT, Made::several, x -> x.least(0, 0, 1000001));
        Due.changesNothing("least(0, -1, 1)", Due.ARGUMENT, Made::several, x -> x.least(0, -1, 1));
        Due.changesNothing("least(0, 2, 1)", Due.ARGUMENT, Made::several, x -> x.least(0, 2, 1));
        Due.changesNothing("least(5, 1, 1)", Due.ARITHMETIC, Made::several, x -> x.least(5, 1, 1));
        Due.changesNothing("least(5, 0, 1)", Due.ARITHMETIC, Made::several, x -> x.least(5, 0, 1));
    }
}
