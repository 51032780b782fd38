/** Promises 9 (digit), 10 (total) and 11 (compare). */
public final class DigitsTest {
    private static final int[] WRONG_ROWS = {-1, 4, 7, 8, Integer.MAX_VALUE, Integer.MIN_VALUE};
    private static final int[] WRONG_YEARS = {0, 49, 9999, -9999, Integer.MAX_VALUE, Integer.MIN_VALUE};

    public static void main(String[] args) {
        digits();
        wrongDigits();
        totals();
        orders();
        Due.end("DigitsTest");
    }

    /** Rows 0 and 1 lead to row 3: 48 years with the greatest weight of all. */
    private static YearFractions greatest() {
        YearFractions x = new YearFractions();
        x.row(1, 48);
        x.row(1, 48);
        for (int year = 1; year <= 48; year++) {
            x.weight(0, year, 1000000000000000000L);
            x.weight(1, year, 999999999999999999L);
        }
        x.times(0, 1, 1);
        x.add(2, 1);
        return x;
    }

    private static void digits() {
        YearFractions x = new YearFractions();
        x.row(3, 2);
        x.weight(0, 4, Long.MAX_VALUE);
        String text = "000000000000000009223372036854775807";
        for (int i = 0; i < 36; i++) {
            int at = i;
            Due.is("digit(0, 4, " + i + ")", text.charAt(35 - i) - '0', () -> x.digit(0, 4, at));
            Due.is("digit(0, 3, " + i + ")", 0, () -> x.digit(0, 3, at));
        }
        YearFractions y = greatest();
        for (int i = 0; i < 36; i++) {
            int at = i;
            Due.is("digit(3, 48, " + i + ")", 9, () -> y.digit(3, 48, at));
        }
    }

    private static void wrongDigits() {
        YearFractions x = greatest();
        int[] places = {-1, 36, 37, 72, Integer.MAX_VALUE, Integer.MIN_VALUE};
        for (int i : places) {
            Due.index("digit(3, 1, " + i + ")", () -> x.digit(3, 1, i));
        }
        for (int row : WRONG_ROWS) {
            Due.index("digit(" + row + ", 1, 0)", () -> x.digit(row, 1, 0));
        }
        for (int year : WRONG_YEARS) {
            Due.index("digit(3, " + year + ", 0)", () -> x.digit(3, year, 0));
        }
    }

    private static void totals() {
        YearFractions x = greatest();
        // 48 times (10 to the 36th less 1)
        String text = "47999999999999999999999999999999999952";
        for (int i = 0; i < 38; i++) {
            int at = i;
            Due.is("total(3, " + i + ")", text.charAt(37 - i) - '0', () -> x.total(3, at));
        }
        int[] places = {-1, 38, 72, Integer.MAX_VALUE, Integer.MIN_VALUE};
        for (int i : places) {
            Due.index("total(3, " + i + ")", () -> x.total(3, i));
        }
        for (int row : WRONG_ROWS) {
            Due.index("total(" + row + ", 0)", () -> x.total(row, 0));
        }
        x.row(1, 48);
        Due.is("total() of nothing", 0, () -> x.total(4, 0));
    }

    private static void orders() {
        YearFractions x = greatest();
        x.weight(0, 1, 2000000000L);
        x.weight(0, 2, 1999999999L);
        x.weight(0, 3, 0);
        Due.is("more in an earlier part", 1, () -> x.compare(0, 1, 0, 2));
        Due.is("less in an earlier part", -1, () -> x.compare(0, 2, 0, 1));
        Due.is("the same year", 0, () -> x.compare(0, 1, 0, 1));
        Due.is("0 and more", -1, () -> x.compare(0, 3, 3, 1));
        Due.is("the greatest and one less great", 1, () -> x.compare(3, 1, 2, 1));
        Due.is("one less great and the greatest", -1, () -> x.compare(2, 1, 3, 1));
        Due.is("the same in two rows", 0, () -> x.compare(3, 48, 3, 1));
        for (int row : WRONG_ROWS) {
            Due.index("compare(" + row + ", 1, 0, 1)", () -> x.compare(row, 1, 0, 1));
            Due.index("compare(0, 1, " + row + ", 1)", () -> x.compare(0, 1, row, 1));
        }
        for (int year : WRONG_YEARS) {
            Due.index("compare(0, " + year + ", 0, 1)", () -> x.compare(0, year, 0, 1));
            Due.index("compare(0, 1, 0, " + year + ")", () -> x.compare(0, 1, 0, year));
        }
    }
}
