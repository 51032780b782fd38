/** Promises 1 (a new object), 2 (row), 3 (weight), 12 (about) and 17 (clear). */
public final class RowsTest {
    public static void main(String[] args) {
        newObject();
        newRows();
        wrongRows();
        weights();
        rowsAreZeroWhenUsedAgain();
        aboutRows();
        cleared();
        Due.end("RowsTest");
    }

    private static void newObject() {
        YearFractions x = new YearFractions();
        Due.index("about(0, 0) of a new object", () -> x.about(0, 0));
        Due.index("span(0, 0) of a new object", () -> x.span(0, 0));
        Due.is("rest() of a new object", 0, x::rest);
        Due.is("clear() of a new object", 0, x::clear);
        Due.is("the first row", 0, () -> x.row(1, 1));
        YearFractions y = new YearFractions();
        Due.index("another object's row", () -> y.about(0, 0));
    }

    private static void newRows() {
        YearFractions x = new YearFractions();
        for (int i = 0; i < 8; i++) {
            int want = i;
            Due.is("row " + i, want, () -> x.row(want, 48));
        }
        Due.state("a ninth row", () -> x.row(1, 1));
        Due.state("a ninth row of no years", () -> x.row(1, 0));
        Due.state("a ninth row of a year too late", () -> x.row(10000, 1));
        Due.is("rows after that", 8, x::clear);
    }

    private static void wrongRows() {
        YearFractions x = new YearFractions();
        int[][] wrong = {
            {1, 0}, {1, -1}, {1, 49}, {1, Integer.MIN_VALUE}, {1, Integer.MAX_VALUE},
            {-10000, 1}, {-10000, 48}, {10000, 1}, {9999, 2}, {9953, 48},
            {Integer.MAX_VALUE, 1}, {Integer.MAX_VALUE, 48}, {Integer.MIN_VALUE, 1}, {Integer.MIN_VALUE, 48},
            {Integer.MAX_VALUE, Integer.MAX_VALUE}, {Integer.MIN_VALUE, Integer.MIN_VALUE},
        };
        for (int[] w : wrong) {
            Due.argument("row(" + w[0] + ", " + w[1] + ")", () -> x.row(w[0], w[1]));
        }
        Due.is("row(9999, 1)", 0, () -> x.row(9999, 1));
        Due.is("row(9952, 48)", 1, () -> x.row(9952, 48));
        Due.is("row(-9999, 1)", 2, () -> x.row(-9999, 1));
        Due.is("row(-9999, 48)", 3, () -> x.row(-9999, 48));
        Due.is("the last year of row 1", 9999, () -> x.about(1, 1));
    }

    private static void weights() {
        YearFractions x = new YearFractions();
        x.row(-3, 5);
        Due.is("0 over 0", 0, () -> x.weight(0, -3, 0) ? 1 : 0);
        Due.is("5 over 0", 1, () -> x.weight(0, -3, 5) ? 1 : 0);
        Due.is("5 over 5", 0, () -> x.weight(0, -3, 5) ? 1 : 0);
        Due.is("great over 5", 1, () -> x.weight(0, -3, Long.MAX_VALUE) ? 1 : 0);
        Due.is("great over great", 0, () -> x.weight(0, -3, Long.MAX_VALUE) ? 1 : 0);
        Due.is("one below great", 1, () -> x.weight(0, -3, Long.MAX_VALUE - 1) ? 1 : 0);
        Due.is("same last nine digits", 1, () -> x.weight(0, -3, 854775806L) ? 1 : 0);
        Due.is("back to 0", 1, () -> x.weight(0, -3, 0) ? 1 : 0);
        Due.is("the last year", 1, () -> x.weight(0, 1, 9) ? 1 : 0);
        Due.is("its digit", 9, () -> x.digit(0, 1, 0));
        Due.is("its neighbour", 0, () -> x.digit(0, 0, 0));
        int[] years = {-4, 2, 10000, -10000, Integer.MAX_VALUE, Integer.MIN_VALUE};
        for (int year : years) {
            Due.index("weight of year " + year, () -> x.weight(0, year, 1) ? 1 : 0);
            Due.index("weight below 0 of year " + year, () -> x.weight(0, year, -1) ? 1 : 0);
        }
        int[] rows = {-1, 1, 7, 8, Integer.MAX_VALUE, Integer.MIN_VALUE};
        for (int row : rows) {
            Due.index("weight in row " + row, () -> x.weight(row, 0, 1) ? 1 : 0);
        }
        Due.argument("weight -1", () -> x.weight(0, 1, -1) ? 1 : 0);
        Due.argument("the least weight", () -> x.weight(0, 1, Long.MIN_VALUE) ? 1 : 0);
        Due.is("the weight stays", 9, () -> x.digit(0, 1, 0));
    }

    private static void rowsAreZeroWhenUsedAgain() {
        YearFractions x = new YearFractions();
        x.row(1, 48);
        for (int year = 1; year <= 48; year++) {
            x.weight(0, year, Long.MAX_VALUE);
        }
        x.clear();
        x.row(100, 48);
        Due.is("years with a weight in the new row", 0, () -> x.about(0, 2));
        Due.arithmetic("least() of it", () -> x.least(0, 1, 2));
    }

    private static void aboutRows() {
        YearFractions x = new YearFractions();
        x.row(-7, 10);
        x.row(5, 1);
        x.weight(0, -7, 1);
        x.weight(0, 2, 1000000000L);
        x.weight(0, 0, Long.MAX_VALUE);
        x.weight(0, 1, 1);
        x.weight(0, 1, 0);
        Due.is("first", -7, () -> x.about(0, 0));
        Due.is("last", 2, () -> x.about(0, 1));
        Due.is("how many", 3, () -> x.about(0, 2));
        Due.is("first of one", 5, () -> x.about(1, 0));
        Due.is("last of one", 5, () -> x.about(1, 1));
        Due.is("how many of one", 0, () -> x.about(1, 2));
        int[] wrong = {-1, 3, Integer.MAX_VALUE, Integer.MIN_VALUE};
        for (int what : wrong) {
            Due.argument("about(0, " + what + ")", () -> x.about(0, what));
            Due.index("about(2, " + what + ")", () -> x.about(2, what));
            Due.index("about(-1, " + what + ")", () -> x.about(-1, what));
        }
    }

    private static void cleared() {
        YearFractions x = new YearFractions();
        x.row(1, 3);
        x.weight(0, 2, 7);
        x.times(0, 0, 10);
        Due.is("rest() before", 9, x::rest);
        Due.is("least() before", 1, () -> x.least(0, 1, 1));
        Due.is("clear()", 2, x::clear);
        Due.is("rest() behind", 0, x::rest);
        Due.index("span() behind", () -> x.span(0, 0));
        Due.index("row 0 behind", () -> x.about(0, 0));
        Due.index("add() behind", () -> x.add(0, 1));
        Due.is("clear() again", 0, x::clear);
        Due.is("row() behind", 0, () -> x.row(-1, 2));
    }
}
