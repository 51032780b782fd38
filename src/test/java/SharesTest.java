/** Promises 7 (least) and 8 (span). */
public final class SharesTest {
    public static void main(String[] args) {
        sharesMetJust();
        equalWeights();
        spansAreKept();
        manySpans();
        wrongShares();
        greatWeights();
        Due.end("SharesTest");
    }

    private static YearFractions rowOf(int first, long... weights) {
        YearFractions x = new YearFractions();
        x.row(first, weights.length);
        for (int i = 0; i < weights.length; i++) {
            x.weight(0, first + i, weights[i]);
        }
        return x;
    }

    private static void spansAre(String what, YearFractions x, int... years) {
        for (int i = 0; i < years.length; i++) {
            int at = i;
            Due.is(what + ": span(" + i / 2 + ", " + i % 2 + ")", years[i], () -> x.span(at / 2, at % 2));
        }
        Due.index(what + ": no further span", () -> x.span(years.length / 2, 0));
        Due.index(what + ": no further span's end", () -> x.span(years.length / 2, 1));
    }

    private static void sharesMetJust() {
        YearFractions x = rowOf(-2, 10, 0, 50, 30, 10);
        Due.is("half", 1, () -> x.least(0, 1, 2));
        spansAre("half", x, 0, 0);
        Due.is("half and a bit", 1, () -> x.least(0, 500001, 1000000));
        spansAre("half and a bit", x, 0, 1);
        Due.is("nine tenths", 2, () -> x.least(0, 9, 10));
        spansAre("nine tenths", x, -2, -2, 0, 1);
        Due.is("all", 2, () -> x.least(0, 7, 7));
        spansAre("all", x, -2, -2, 0, 2);
        Due.is("the least share", 1, () -> x.least(0, 1, 1000000));
        spansAre("the least share", x, 0, 0);
        Due.is("nothing", 0, () -> x.least(0, 0, 5));
        spansAre("nothing", x);
    }

    private static void equalWeights() {
        YearFractions x = rowOf(9997, 4, 4, 4);
        Due.is("a third", 1, () -> x.least(0, 1, 3));
        spansAre("a third", x, 9997, 9997);
        Due.is("more than a third", 1, () -> x.least(0, 333334, 1000000));
        spansAre("more than a third", x, 9997, 9998);
        Due.is("less than a third", 1, () -> x.least(0, 333333, 1000000));
        spansAre("less than a third", x, 9997, 9997);
        YearFractions y = rowOf(1, 1, 7, 2, 7, 7);
        Due.is("equal ones, the earlier", 2, () -> y.least(0, 14, 24));
        spansAre("equal ones, the earlier", y, 2, 2, 4, 4);
        YearFractions z = rowOf(-9999, 0, 0, 3);
        Due.is("none of 0", 1, () -> z.least(0, 1, 1));
        spansAre("none of 0", z, -9997, -9997);
    }

    private static void spansAreKept() {
        YearFractions x = rowOf(1, 5, 0, 5);
        x.row(7, 2);
        Due.is("least()", 2, () -> x.least(0, 1, 1));
        x.weight(0, 1, 0);
        x.weight(0, 2, 90);
        spansAre("other weights", x, 1, 1, 3, 3);
        Due.arithmetic("a row of 0", () -> x.least(1, 1, 1));
        Due.argument("above too great", () -> x.least(0, 2, 1));
        Due.index("no row", () -> x.least(2, 1, 1));
        x.add(0, 1);
        spansAre("calls that fail, and another row", x, 1, 1, 3, 3);
        Due.is("least() anew", 1, () -> x.least(0, 1, 1));
        spansAre("anew", x, 2, 3);
        int[] ends = {-1, 2, Integer.MAX_VALUE, Integer.MIN_VALUE};
        for (int end : ends) {
            Due.index("span(0, " + end + ")", () -> x.span(0, end));
            Due.index("span(" + end + ", 0)", () -> x.span(end, 0));
        }
    }

    private static void manySpans() {
        YearFractions x = new YearFractions();
        x.row(-20, 48);
        for (int i = 0; i < 24; i++) {
            x.weight(0, -20 + 2 * i, i + 1);
        }
        Due.is("every other year", 24, () -> x.least(0, 1, 1));
        for (int i = 0; i < 24; i++) {
            int k = i;
            Due.is("first year of span " + k, -20 + 2 * k, () -> x.span(k, 0));
            Due.is("last year of span " + k, -20 + 2 * k, () -> x.span(k, 1));
        }
        Due.index("span 24", () -> x.span(24, 0));
        for (int i = 0; i < 24; i++) {
            x.weight(0, -19 + 2 * i, 1);
        }
        Due.is("all years", 1, () -> x.least(0, 1000000, 1000000));
        spansAre("all years", x, -20, 27);
    }

    private static void wrongShares() {
        YearFractions x = rowOf(1, 1, 2);
        x.row(1, 2);
        int[][] wrong = {
            {0, 0}, {1, 0}, {-1, -1}, {1, -1}, {0, 1000001}, {1, 1000001}, {-1, 1}, {2, 1}, {1000001, 1000000},
            {Integer.MAX_VALUE, Integer.MAX_VALUE}, {Integer.MIN_VALUE, 1}, {0, Integer.MIN_VALUE},
        };
        for (int[] w : wrong) {
            String call = w[0] + ", " + w[1] + ")";
            Due.argument("least(0, " + call, () -> x.least(0, w[0], w[1]));
            Due.argument("least(1, " + call, () -> x.least(1, w[0], w[1]));
            Due.index("least(2, " + call, () -> x.least(2, w[0], w[1]));
        }
        Due.index("least(-1, 1, 1)", () -> x.least(-1, 1, 1));
        Due.index("least(the least, 1, 1)", () -> x.least(Integer.MIN_VALUE, 1, 1));
        Due.arithmetic("least(1, 0, 1) with no weights", () -> x.least(1, 0, 1));
        Due.arithmetic("least(1, 1, 1) with no weights", () -> x.least(1, 1, 1));
        Due.index("there is no set yet", () -> x.span(0, 0));
    }

    private static void greatWeights() {
        YearFractions x = rowOf(1, 999999999999999999L, 999999999999999999L, 1);
        x.row(1, 3);
        x.weight(1, 1, 1000000000000000000L);
        x.weight(1, 2, 999999999999999999L);
        x.weight(1, 3, 1);
        Due.is("times()", 2, () -> x.times(0, 1, 1));
        Due.is("a half, met by the greater one", 1, () -> x.least(2, 1, 2));
        spansAre("a half", x, 1, 1);
        Due.is("a bit more", 1, () -> x.least(2, 500001, 1000000));
        spansAre("a bit more", x, 1, 2);
        Due.is("all, with the last 1", 1, () -> x.least(2, 1, 1));
        spansAre("all", x, 1, 3);
    }
}
