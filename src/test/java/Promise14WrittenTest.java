/** Promise 14: written. */
public final class Promise14WrittenTest {
    public static void main(String[] args) {
        Due.test("promise 14: years from 1 on are written as they are", Promise14WrittenTest::fromOneOn);
        Due.test("promise 14: the year ahead of 1 is written -1", Promise14WrittenTest::aheadOfOne);
        Due.test("promise 14: the one ahead of that -2, and so on", Promise14WrittenTest::andSoOn);
        Due.test("promise 14: there is none 0", Promise14WrittenTest::noneNull);
        Due.test("promise 14: years that no row has: written() refuses none", Promise14WrittenTest::farYears);
        Due.test("promise 14: the least year is written below what an int can be", Promise14WrittenTest::leastYear);
        Due.end("Promise14WrittenTest");
    }

    private static void writtenIs(long want, int year) {
        YearFractions x = new YearFractions();
        Due.is("written(" + year + ")", want, () -> x.written(year));
    }

    private static void fromOneOn() {
        writtenIs(1, 1);
        writtenIs(2, 2);
        writtenIs(2000, 2000);
        writtenIs(9999, 9999);
    }

    private static void aheadOfOne() {
        writtenIs(-1, 0);
    }

    private static void andSoOn() {
        writtenIs(-2, -1);
        writtenIs(-3, -2);
        writtenIs(-747, -746);
        writtenIs(-10000, -9999);
    }

    private static void noneNull() {
        for (int year = -100; year <= 100; year++) {
            int y = year;
            Due.isTrue("written(" + y + ") is not 0", new YearFractions().written(y) != 0);
            long next = new YearFractions().written(y + 1) - new YearFractions().written(y);
            Due.is("from written(" + y + ") to the next", y == 0 ? 2 : 1, () -> next);
        }
    }

    private static void farYears() {
        writtenIs(10000, 10000);
        writtenIs(-10001, -10000);
        writtenIs(Integer.MAX_VALUE, Integer.MAX_VALUE);
        writtenIs(Integer.MIN_VALUE, Integer.MIN_VALUE + 1);
    }

    private static void leastYear() {
        writtenIs(-2147483649L, Integer.MIN_VALUE);
    }
}
