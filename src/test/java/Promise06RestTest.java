/** Promise 6: rest. */
public final class Promise06RestTest {
    public static void main(String[] args) {
        Due.test("promise 6: 0 at first", Promise06RestTest::atFirst);
        Due.test("promise 6: 0 at first, until times()", Promise06RestTest::untilTimes);
        Due.test("promise 6: the rests together", Promise06RestTest::together);
        Due.test("promise 6: the rests together, of the years that both rows have", Promise06RestTest::ofBoth);
        Due.test("promise 6: the rests together, as great as they can be", Promise06RestTest::asGreatAsCanBe);
        Due.test("promise 6: of the latest times(), and of no earlier one", Promise06RestTest::latest);
        Due.test("promise 6: of the latest times() that was not refused", Promise06RestTest::refused);
        Due.test("promise 6: no other call changes them, but clear()", Promise06RestTest::otherCalls);
        Due.end("Promise06RestTest");
    }

    private static void atFirst() {
        YearFractions x = new YearFractions();
        Due.is("rest()", 0, x::rest);
    }

    private static void untilTimes() {
        YearFractions x = Made.with(1, 7, 8);
        x.add(0, 0);
        x.least(0, 1, 2);
        Due.is("rest()", 0, x::rest);
        Due.argument("times(0, 0, 0)", () -> x.times(0, 0, 0));
        Due.is("rest() behind a refused times()", 0, x::rest);
    }

    private static void together() {
        YearFractions x = Made.with(1, 7, 5, 4, 9);
        Made.row(x, 1, 3, 4, 5, 1);
        x.times(0, 1, 10);
        Due.is("1 and 0 and 0 and 9", 10, x::rest);
        Due.is("rest() again", 10, x::rest);
        x.times(0, 1, 7);
        Due.is("0 and 6 and 6 and 2", 14, x::rest);
    }

    private static void ofBoth() {
        YearFractions x = Made.with(1, 9, 9, 3);
        Made.row(x, 3, 7, 9, 9);
        x.times(0, 1, 100);
        Due.is("3 by 7", 21, x::rest);
    }

    private static void asGreatAsCanBe() {
        YearFractions x = new YearFractions();
        x.row(1, 48);
        x.row(1, 48);
        for (int year = 1; year <= 48; year++) {
            x.weight(0, year, 999999999L);
            x.weight(1, year, 1);
        }
        x.times(0, 1, 1000000000);
        Due.is("48 times 999999999", 47999999952L, x::rest);
        YearFractions y = Made.greatest(1, 1);
        Made.row(y, 1, 1);
        y.times(3, 4, 1000000000);
        Due.is("of the greatest weight", 999999999, y::rest);
    }

    private static void latest() {
        YearFractions x = Made.with(1, 7);
        x.times(0, 0, 10);
        Due.is("49 of 10", 9, x::rest);
        x.times(0, 0, 6);
        Due.is("49 of 6", 1, x::rest);
        x.times(0, 0, 7);
        Due.is("49 of 7", 0, x::rest);
        x.times(0, 0, 50);
        Due.is("49 of 50", 49, x::rest);
        x.times(0, 0, 1);
        Due.is("49 of 1", 0, x::rest);
    }

    private static void refused() {
        YearFractions x = Made.several();
        Due.is("rest()", 1, x::rest);
        Due.index("times(0, 6, 4)", () -> x.times(0, 6, 4));
        Due.is("rest() behind IndexOutOfBoundsException", 1, x::rest);
        Due.argument("times(0, 4, 4)", () -> x.times(0, 4, 4));
        Due.is("rest() behind IllegalArgumentException", 1, x::rest);
        Due.arithmetic("times(2, 2, 100)", () -> x.times(2, 2, 100));
        Due.is("rest() behind ArithmeticException", 1, x::rest);
        YearFractions y = Made.full();
        Due.state("times(0, 1, 4) of nine", () -> y.times(0, 1, 4));
        Due.is("rest() behind IllegalStateException", 1, y::rest);
    }

    private static void otherCalls() {
        YearFractions x = Made.with(1, 7);
        x.times(0, 0, 10);
        x.row(1, 1);
        x.weight(0, 1, 8);
        x.add(0, 1);
        x.least(0, 1, 1);
        x.over(7, 2);
        x.day(0, 1, 1, 1);
        x.date(0, 0, 0);
        Due.is("rest()", 9, x::rest);
        x.clear();
        Due.is("rest() behind clear()", 0, x::rest);
    }
}
