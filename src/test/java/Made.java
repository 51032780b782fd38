/** Objects that tests begin with, and arguments that no call takes. */
final class Made {
    static final long E18 = 1000000000000000000L;
    /** 10 to the 36th less 1, the greatest weight. */
    static final String GREATEST = "999999999999999999999999999999999999";

    private static final int LEAST_INT = Integer.MIN_VALUE;
    private static final int GREATEST_INT = Integer.MAX_VALUE;

    private Made() {
    }

    /** One row, number 0. */
    static YearFractions with(int first, long... weights) {
        YearFractions x = new YearFractions();
        row(x, first, weights);
        return x;
    }

    /** One row more. */
    static int row(YearFractions x, int first, long... weights) {
        int row = x.row(first, weights.length);
        for (int i = 0; i < weights.length; i++) {
            x.weight(row, first + i, weights[i]);
        }
        return row;
    }

    /** Rows 0 and 1 with 10 to the 18th and one less, and what they lead to: row 3 with the greatest weights. */
    static YearFractions greatest(int first, int many) {
        YearFractions x = new YearFractions();
        x.row(first, many);
        x.row(first, many);
        for (int year = first; year < first + many; year++) {
            x.weight(0, year, E18);
            x.weight(1, year, E18 - 1);
        }
        x.times(0, 1, 1);
        x.add(2, 1);
        return x;
    }

    /**
     * Six rows with weights, rests and a least set, so few years that Picture stays within 512 calls. Refused are
     * add(2, 2) and times(0, 0, 1) for their second year alone, add(0, 4) for its 49 years, times(0, 4, 1) for no year
     * together, least(5, ..) for no weight.
     */
    static YearFractions several() {
        YearFractions x = new YearFractions();
        row(x, 1, 5, E18);
        row(x, 1, 3, E18 - 1);
        x.times(0, 1, 1);
        x.times(0, 1, 2);
        row(x, 49, 7);
        x.row(60, 1);
        x.least(0, 1, 2);
        return x;
    }

    /** The same with eight rows. */
    static YearFractions full() {
        YearFractions x = several();
        x.row(-9999, 1);
        x.row(9999, 1);
        return x;
    }

    /** Numbers that no row has if there are so many. */
    static int[] noRows(int rows) {
        return new int[] {-1, rows, 8, LEAST_INT, GREATEST_INT};
    }

    /** Years that are not in the row. */
    static int[] noYears(int first, int last) {
        return new int[] {first - 1, last + 1, -10000, 10000, LEAST_INT, GREATEST_INT};
    }

    /** Numbers outside of least .. greatest. */
    static int[] outside(int least, int greatest) {
        return new int[] {least - 1, greatest + 1, LEAST_INT, GREATEST_INT};
    }
}
