/** Promise 13: over. */
public final class Promise13OverTest {
    public static void main(String[] args) {
        Due.test("promise 13: a / b", Promise13OverTest::quotients);
        Due.test("promise 13: as whole numbers (to 0)", Promise13OverTest::toNull);
        Due.test("promise 13: as whole numbers (to 0): less than one whole", Promise13OverTest::lessThanOne);
        Due.test("promise 13: the least and the greatest long", Promise13OverTest::ends);
        Due.test("promise 13: the one quotient beyond a long wraps around", Promise13OverTest::wrapAround);
        Due.test("promise 13: ArithmeticException: b is 0", Promise13OverTest::byNull);
        Due.test("promise 13: a call, refused or not, changes nothing", Promise13OverTest::changesNothing);
        Due.end("Promise13OverTest");
    }

    private static void overIs(long want, long a, long b) {
        YearFractions x = new YearFractions();
        Due.is("over(" + a + ", " + b + ")", want, () -> x.over(a, b));
    }

    private static void quotients() {
        overIs(2, 6, 3);
        overIs(-2, 6, -3);
        overIs(-2, -6, 3);
        overIs(2, -6, -3);
        overIs(0, 0, 5);
        overIs(0, 0, -5);
        overIs(5, 5, 1);
        overIs(-5, 5, -1);
        overIs(3000000000L, 6000000000L, 2);
        overIs(2, 6000000000L, 3000000000L);
    }

    private static void toNull() {
        overIs(3, 7, 2);
        overIs(-3, -7, 2);
        overIs(-3, 7, -2);
        overIs(3, -7, -2);
        overIs(2, 8, 3);
        overIs(-2, -8, 3);
        overIs(-2, 8, -3);
        overIs(2, -8, -3);
    }

    private static void lessThanOne() {
        overIs(0, 1, 2);
        overIs(0, -1, 2);
        overIs(0, 1, -2);
        overIs(0, -1, -2);
        overIs(0, Long.MAX_VALUE, Long.MIN_VALUE);
    }

    private static void ends() {
        overIs(Long.MAX_VALUE, Long.MAX_VALUE, 1);
        overIs(-Long.MAX_VALUE, Long.MAX_VALUE, -1);
        overIs(Long.MIN_VALUE, Long.MIN_VALUE, 1);
        overIs(1, Long.MIN_VALUE, Long.MIN_VALUE);
        overIs(-1, Long.MIN_VALUE, Long.MAX_VALUE);
        overIs(-4611686018427387904L, Long.MIN_VALUE, 2);
        overIs(4611686018427387904L, Long.MIN_VALUE, -2);
    }

    // As Java's a / b does: the document names an exception for b = 0 alone.
    private static void wrapAround() {
        overIs(Long.MIN_VALUE, Long.MIN_VALUE, -1);
    }

    private static void byNull() {
        YearFractions x = new YearFractions();
        long[] dividends = {0, 1, -1, Long.MAX_VALUE, Long.MIN_VALUE};
        for (long a : dividends) {
            Due.arithmetic("over(" + a + ", 0)", () -> x.over(a, 0));
        }
        // Not 0 as a long, but as an int.
        Due.is("over(4294967296, 4294967296)", 1, () -> x.over(4294967296L, 4294967296L));
    }

    private static void changesNothing() {
        Due.changesNothing("over(1, 0)", Due.ARITHMETIC, Made::several, x -> x.over(1, 0));
        YearFractions x = Made.several();
        x.over(7, 2);
        Due.shows("what is there behind over(7, 2)", Picture.of(Made.several()), () -> Picture.of(x));
    }
}
