import java.math.BigInteger;

/** Promises 4 (add), 5 (times) and 6 (rest). */
public final class SumsTest {
    public static void main(String[] args) {
        sums();
        wrongSums();
        products();
        wrongProducts();
        greatestWeights();
        Due.end("SumsTest");
    }

    static void weightIs(YearFractions x, int row, int year, BigInteger want) {
        for (int i = 0; i < 36; i++) {
            int at = i;
            int digit = want.divide(BigInteger.TEN.pow(i)).mod(BigInteger.TEN).intValue();
            Due.is("digit(" + row + ", " + year + ", " + i + ") of " + want, digit, () -> x.digit(row, year, at));
        }
    }

    private static void sums() {
        YearFractions x = new YearFractions();
        x.row(-2, 3);
        x.row(4, 2);
        x.weight(0, -2, 1);
        x.weight(0, 0, 999999999L);
        x.weight(1, 5, 8);
        Due.is("add() over a gap", 2, () -> x.add(1, 0));
        Due.is("first", -2, () -> x.about(2, 0));
        Due.is("last", 5, () -> x.about(2, 1));
        Due.is("how many", 3, () -> x.about(2, 2));
        weightIs(x, 2, 3, BigInteger.ZERO);
        weightIs(x, 2, 5, BigInteger.valueOf(8));
        Due.is("add() of a row to itself", 3, () -> x.add(2, 2));
        weightIs(x, 3, 0, BigInteger.valueOf(1999999998L));
        x.weight(3, 0, 1);
        weightIs(x, 2, 0, BigInteger.valueOf(999999999L));
        Due.is("add() of one within the other", 4, () -> x.add(2, 1));
        Due.is("its first", -2, () -> x.about(4, 0));
        weightIs(x, 4, 5, BigInteger.valueOf(16));
    }

    private static void wrongSums() {
        YearFractions x = new YearFractions();
        x.row(1, 24);
        x.row(25, 24);
        x.row(26, 24);
        x.row(-9999, 1);
        x.row(9999, 1);
        Due.is("add() to 48 years", 5, () -> x.add(1, 0));
        Due.argument("add() to 49 years", () -> x.add(0, 2));
        Due.argument("add() of the ends", () -> x.add(3, 4));
        Due.argument("add() of the ends, turned round", () -> x.add(4, 3));
        Due.index("add(6, 0)", () -> x.add(6, 0));
        Due.index("add(0, 6)", () -> x.add(0, 6));
        Due.index("add(-1, 0)", () -> x.add(-1, 0));
        Due.index("add(0, the greatest)", () -> x.add(0, Integer.MAX_VALUE));
        Due.index("add(the least, 0)", () -> x.add(Integer.MIN_VALUE, 0));
        x.row(1, 1);
        x.row(1, 1);
        Due.state("add() of nine", () -> x.add(0, 1));
        Due.state("add() of nine, too long", () -> x.add(3, 4));
        Due.index("add() of nine, no row", () -> x.add(0, 8));
    }

    private static void products() {
        YearFractions x = new YearFractions();
        x.row(1, 5);
        x.row(4, 5);
        x.weight(0, 4, Long.MAX_VALUE);
        x.weight(1, 4, 123456789L);
        x.weight(0, 5, 7);
        x.weight(1, 5, 3);
        x.weight(0, 3, 4);
        x.weight(1, 6, 4);
        Due.is("times()", 2, () -> x.times(0, 1, 10));
        Due.is("first", 4, () -> x.about(2, 0));
        Due.is("last", 5, () -> x.about(2, 1));
        BigInteger product = BigInteger.valueOf(Long.MAX_VALUE).multiply(BigInteger.valueOf(123456789L));
        weightIs(x, 2, 4, product.divide(BigInteger.TEN));
        weightIs(x, 2, 5, BigInteger.valueOf(2));
        Due.is("rest()", product.mod(BigInteger.TEN).longValue() + 1, x::rest);
        Due.is("rest() again", product.mod(BigInteger.TEN).longValue() + 1, x::rest);
        Due.is("times() by 1", 3, () -> x.times(1, 1, 1));
        Due.is("rest() of it", 0, x::rest);
        weightIs(x, 3, 5, BigInteger.valueOf(9));
        x.row(4, 1);
        x.weight(4, 4, 1);
        Due.is("all falls", 5, () -> x.times(4, 4, 1000000000));
        Due.is("rest() of it", 1, x::rest);
        Due.is("no weight is left", 0, () -> x.about(5, 2));
    }

    private static void wrongProducts() {
        YearFractions x = new YearFractions();
        x.row(1, 3);
        x.row(4, 3);
        x.row(3, 2);
        x.weight(0, 3, 5);
        x.weight(2, 3, 5);
        Due.is("one year together", 3, () -> x.times(0, 2, 10));
        Due.is("rest()", 5, x::rest);
        Due.argument("no year together", () -> x.times(0, 1, 1));
        Due.argument("no year together, turned round", () -> x.times(1, 0, 1));
        int[] units = {0, -1, 1000000001, Integer.MAX_VALUE, Integer.MIN_VALUE};
        for (int unit : units) {
            Due.argument("unit " + unit, () -> x.times(0, 2, unit));
            Due.index("unit " + unit + ", no row", () -> x.times(0, 4, unit));
        }
        Due.index("times(-1, 0, 1)", () -> x.times(-1, 0, 1));
        Due.index("times(0, -1, 1)", () -> x.times(0, -1, 1));
        Due.index("times(the greatest, 0, 1)", () -> x.times(Integer.MAX_VALUE, 0, 1));
        Due.is("rest() stays", 5, x::rest);
        Due.is("the next row", 4, () -> x.row(1, 1));
        x.row(1, 1);
        x.row(1, 1);
        x.row(1, 1);
        Due.state("times() of nine", () -> x.times(0, 2, 1));
        Due.state("times() of nine, unit 0", () -> x.times(0, 2, 0));
        Due.index("times() of nine, no row", () -> x.times(8, 2, 0));
        Due.is("rest() stays", 5, x::rest);
    }

    private static void greatestWeights() {
        YearFractions x = new YearFractions();
        BigInteger bound = BigInteger.TEN.pow(36);
        x.row(0, 2);
        x.row(1, 1);
        x.weight(0, 1, 1000000000000000000L);
        x.weight(1, 1, 999999999999999999L);
        Due.arithmetic("10 to the 36th", () -> x.times(0, 0, 1));
        Due.is("rest() stays", 0, x::rest);
        Due.is("10 to the 36th less 10 to the 18th", 2, () -> x.times(0, 1, 1));
        BigInteger great = BigInteger.TEN.pow(18).multiply(BigInteger.TEN.pow(18).subtract(BigInteger.ONE));
        weightIs(x, 2, 1, great);
        x.weight(0, 1, 999999999999999999L);
        Due.is("the greatest", 3, () -> x.add(2, 1));
        weightIs(x, 3, 1, bound.subtract(BigInteger.ONE));
        x.weight(0, 0, 5);
        x.weight(0, 1, 1);
        Due.arithmetic("one more", () -> x.add(0, 3));
        Due.arithmetic("one more, turned round", () -> x.add(3, 0));
        Due.arithmetic("the greatest by itself", () -> x.times(3, 3, 1000000000));
        Due.is("the greatest by 1000000000", 4, () -> {
            x.weight(0, 1, 1000000000L);
            return x.times(3, 0, 1000000000);
        });
        weightIs(x, 4, 1, bound.subtract(BigInteger.ONE));
        x.weight(0, 1, 1000000001L);
        Due.arithmetic("the greatest by 1000000001", () -> x.times(3, 0, 1000000000));
        Due.is("no row came", 5, () -> x.row(1, 1));
    }
}
