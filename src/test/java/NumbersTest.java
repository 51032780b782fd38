/** Promises 13 (over) and 14 (written). */
public final class NumbersTest {
    public static void main(String[] args) {
        YearFractions x = new YearFractions();
        long[][] quotients = {
            {7, 2, 3}, {-7, 2, -3}, {7, -2, -3}, {-7, -2, 3}, {0, 5, 0}, {1, 2, 0}, {-1, 2, 0}, {6, 3, 2},
            {Long.MAX_VALUE, 1, Long.MAX_VALUE}, {Long.MIN_VALUE, 1, Long.MIN_VALUE},
            {Long.MAX_VALUE, -1, -Long.MAX_VALUE}, {Long.MIN_VALUE, 2, Long.MIN_VALUE / 2},
            {Long.MAX_VALUE, Long.MIN_VALUE, 0}, {Long.MIN_VALUE, Long.MAX_VALUE, -1},
            // The one quotient beyond a long: it wraps, as Java's a / b does, for b is not 0.
            {Long.MIN_VALUE, -1, Long.MIN_VALUE},
        };
        for (long[] q : quotients) {
            Due.is("over(" + q[0] + ", " + q[1] + ")", q[2], () -> x.over(q[0], q[1]));
        }
        long[] dividends = {0, 1, -1, Long.MAX_VALUE, Long.MIN_VALUE};
        for (long a : dividends) {
            Due.arithmetic("over(" + a + ", 0)", () -> x.over(a, 0));
        }
        long[][] years = {
            {1, 1}, {2, 2}, {0, -1}, {-1, -2}, {-746, -747}, {9999, 9999}, {-9999, -10000},
            {Integer.MAX_VALUE, Integer.MAX_VALUE}, {Integer.MIN_VALUE, Integer.MIN_VALUE - 1L},
        };
        for (long[] y : years) {
            Due.is("written(" + y[0] + ")", y[1], () -> x.written((int) y[0]));
        }
        Due.end("NumbersTest");
    }
}
