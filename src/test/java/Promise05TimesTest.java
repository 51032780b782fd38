/** Promise 5: times. */
public final class Promise05TimesTest {
    private static final int GREATEST_UNIT = 1000000000;

    public static void main(String[] args) {
        Due.test("promise 5: the years that both have", Promise05TimesTest::bothHave);
        Due.test("promise 5: the years that both have: a single one", Promise05TimesTest::oneTogether);
        Due.test("promise 5: the products", Promise05TimesTest::products);
        Due.test("promise 5: each divided by the unit (rests fall)", Promise05TimesTest::restsFall);
        Due.test("promise 5: rests fall: a product below the unit becomes 0", Promise05TimesTest::allFalls);
        Due.test("promise 5: a new row: those that it comes of stay, and it stays when they change",
            Promise05TimesTest::newRow);
        Due.test("promise 5: its number", Promise05TimesTest::number);
        Due.test("promise 5: IndexOutOfBoundsException: rows", Promise05TimesTest::noSuchRow);
        Due.test("promise 5: IllegalStateException: there are eight", Promise05TimesTest::full);
        Due.test("promise 5: IllegalArgumentException: the unit is not 1 ..", Promise05TimesTest::unitTooSmall);
        Due.test("promise 5: IllegalArgumentException: the unit is not .. 1000000000",
            Promise05TimesTest::unitTooGreat);
        Due.test("promise 5: IllegalArgumentException: they have no year together", Promise05TimesTest::noneTogether);
        Due.test("promise 5: ArithmeticException: a weight would be too great", Promise05TimesTest::tooGreat);
        Due.test("promise 5: ArithmeticException: a weight would be too great, divided by the unit",
            Promise05TimesTest::tooGreatDivided);
        Due.test("promise 5: ArithmeticException: a weight would be too great, in any year",
            Promise05TimesTest::tooGreatAnywhere);
        Due.test("promise 5: IndexOutOfBoundsException comes ahead of the others", Promise05TimesTest::indexFirst);
        Due.test("promise 5: IllegalStateException comes next", Promise05TimesTest::stateNext);
        Due.test("promise 5: IllegalArgumentException comes ahead of ArithmeticException", Promise05TimesTest::order);
        Due.test("promise 5: a refused call changes nothing", Promise05TimesTest::changesNothing);
        Due.end("Promise05TimesTest");
    }

    private static void bothHave() {
        YearFractions x = Made.with(-2, 1, 2, 3, 4);
        Made.row(x, 0, 10, 20, 30);
        Made.row(x, -1, 5, 6);
        x.times(0, 1, 1);
        x.times(1, 0, 1);
        x.times(0, 2, 1);
        Due.shows("times(0, 1, 1)", "0..1: 30 80", () -> Picture.row(x, 3));
        Due.shows("times(1, 0, 1)", "0..1: 30 80", () -> Picture.row(x, 4));
        Due.shows("times(0, 2, 1), one within the other", "-1..0: 10 18", () -> Picture.row(x, 5));
    }

    private static void oneTogether() {
        YearFractions x = Made.with(1, 1, 2, 3);
        Made.row(x, 3, 5, 6);
        Due.is("times(0, 1, 1)", 2, () -> x.times(0, 1, 1));
        Due.is("times(1, 0, 1)", 3, () -> x.times(1, 0, 1));
        Due.shows("times(0, 1, 1)", "3..3: 15", () -> Picture.row(x, 2));
        Due.shows("times(1, 0, 1)", "3..3: 15", () -> Picture.row(x, 3));
    }

    private static void products() {
        YearFractions x = Made.with(1, 0, 1, 999999999L, Long.MAX_VALUE / 10);
        x.times(0, 0, 1);
        Due.shows("squares", "1..4: 0 1 999999998000000001 850705917302346157182696992682656400",
            () -> Picture.row(x, 1));
        Made.row(x, 3, 123456789L, 7);
        x.times(0, 2, 1);
        Due.shows("products", "3..4: 123456788876543211 6456360425798343060", () -> Picture.row(x, 3));
    }

    private static void restsFall() {
        YearFractions x = Made.with(1, 7, 5, 4, 9);
        Made.row(x, 1, 3, 4, 5, 1);
        x.times(0, 1, 10);
        Due.shows("times(0, 1, 10)", "1..4: 2 2 2 0", () -> Picture.row(x, 2));
        x.times(0, 1, 7);
        Due.shows("times(0, 1, 7)", "1..4: 3 2 2 1", () -> Picture.row(x, 3));
        Made.row(x, 1, Long.MAX_VALUE);
        x.times(4, 4, 999999999);
        Due.shows("the square of 9223372036854775807 divided by 999999999", "1..1: 85070591815305207662702115446",
            () -> Picture.row(x, 5));
    }

    private static void allFalls() {
        YearFractions x = Made.with(1, 1, 999999999L, 1000000000L, 0);
        Made.row(x, 1, 1, 1, 1, 1);
        x.times(0, 1, GREATEST_UNIT);
        Due.shows("times() with the greatest unit", "1..4: 0 0 1 0", () -> Picture.row(x, 2));
        Due.is("years with a weight", 1, () -> x.about(2, 2));
    }

    private static void newRow() {
        YearFractions x = Made.with(1, 1, 2);
        Made.row(x, 2, 10, 20);
        x.times(0, 1, 1);
        x.weight(0, 2, 7);
        x.weight(2, 2, 8);
        Due.shows("row 0", "1..2: 1 7", () -> Picture.row(x, 0));
        Due.shows("row 1", "2..3: 10 20", () -> Picture.row(x, 1));
        Due.shows("row 2", "2..2: 8", () -> Picture.row(x, 2));
    }

    private static void number() {
        YearFractions x = Made.with(1, 2);
        for (int i = 1; i < 8; i++) {
            int number = i;
            Due.is("product " + i, number, () -> x.times(number - 1, 0, 1));
        }
        Due.shows("the eighth row", "1..1: 256", () -> Picture.row(x, 7));
    }

    private static void noSuchRow() {
        YearFractions x = Made.with(1, 1);
        for (int row : Made.noRows(1)) {
            Due.index("times(" + row + ", 0, 1)", () -> x.times(row, 0, 1));
            Due.index("times(0, " + row + ", 1)", () -> x.times(0, row, 1));
            Due.index("times(" + row + ", " + row + ", 1)", () -> x.times(row, row, 1));
        }
        Due.is("times(0, 0, 1)", 1, () -> x.times(0, 0, 1));
    }

    private static void full() {
        YearFractions x = Made.full();
        Due.state("times(0, 1, 1) of nine", () -> x.times(0, 1, 1));
        Due.state("times(7, 7, 1) of nine", () -> x.times(7, 7, 1));
        YearFractions y = new YearFractions();
        for (int i = 0; i < 7; i++) {
            y.row(1, 1);
        }
        Due.is("times(6, 0, 1) of eight", 7, () -> y.times(6, 0, 1));
        Due.state("times(6, 0, 1) of nine", () -> y.times(6, 0, 1));
    }

    private static void unitTooSmall() {
        YearFractions x = Made.with(1, 6);
        int[] wrong = {0, -1, -GREATEST_UNIT, Integer.MIN_VALUE};
        for (int unit : wrong) {
            Due.argument("times(0, 0, " + unit + ")", () -> x.times(0, 0, unit));
        }
        Due.is("times(0, 0, 1)", 1, () -> x.times(0, 0, 1));
        Due.shows("times(0, 0, 1)", "1..1: 36", () -> Picture.row(x, 1));
    }

    private static void unitTooGreat() {
        YearFractions x = Made.with(1, Made.E18 / 2);
        int[] wrong = {GREATEST_UNIT + 1, 2 * GREATEST_UNIT, Integer.MAX_VALUE};
        for (int unit : wrong) {
            Due.argument("times(0, 0, " + unit + ")", () -> x.times(0, 0, unit));
        }
        Due.is("times(0, 0, 1000000000)", 1, () -> x.times(0, 0, GREATEST_UNIT));
        Due.shows("times(0, 0, 1000000000)", "1..1: 250000000000000000000000000", () -> Picture.row(x, 1));
    }

    private static void noneTogether() {
        YearFractions x = Made.with(1, 1, 2, 3);
        Made.row(x, 4, 5, 6);
        Made.row(x, -9999, 1);
        Made.row(x, 9999, 1);
        Due.argument("one behind the other", () -> x.times(0, 1, 1));
        Due.argument("one ahead of the other", () -> x.times(1, 0, 1));
        Due.argument("the ends", () -> x.times(2, 3, 1));
        Due.argument("the ends, turned round", () -> x.times(3, 2, 1));
        Due.is("the next row", 4, () -> x.row(1, 1));
    }

    private static void tooGreat() {
        YearFractions x = Made.with(1, Made.E18);
        Made.row(x, 1, Made.E18 - 1);
        Due.arithmetic("10 to the 36th", () -> x.times(0, 0, 1));
        Due.is("10 to the 36th less 10 to the 18th", 2, () -> x.times(0, 1, 1));
        Due.shows("10 to the 36th less 10 to the 18th", "1..1: 999999999999999999000000000000000000",
            () -> Picture.row(x, 2));
        Made.row(x, 1, Long.MAX_VALUE);
        Due.arithmetic("the square of 9223372036854775807", () -> x.times(3, 3, 1));
        Due.arithmetic("a great weight and 2", () -> x.times(2, Made.row(x, 1, 2), 1));
        Due.is("a great weight and 1", 5, () -> {
            x.weight(4, 1, 1);
            return x.times(2, 4, 1);
        });
        YearFractions y = Made.greatest(1, 1);
        Due.arithmetic("the greatest by itself", () -> y.times(3, 3, 1));
        Due.arithmetic("the greatest by itself, divided by 1000000000", () -> y.times(3, 3, GREATEST_UNIT));
    }

    private static void tooGreatDivided() {
        YearFractions x = Made.with(1, Made.E18);
        Due.is("10 to the 36th divided by 2", 1, () -> x.times(0, 0, 2));
        Due.shows("10 to the 36th divided by 2", "1..1: 500000000000000000000000000000000000",
            () -> Picture.row(x, 1));
        YearFractions y = Made.greatest(1, 1);
        Made.row(y, 1, GREATEST_UNIT);
        Due.is("the greatest by 1000000000, divided by it", 5, () -> y.times(3, 4, GREATEST_UNIT));
        Due.shows("the greatest by 1000000000, divided by it", "1..1: " + Made.GREATEST, () -> Picture.row(y, 5));
        y.weight(4, 1, GREATEST_UNIT + 1L);
        Due.arithmetic("the greatest by 1000000001, divided by 1000000000", () -> y.times(3, 4, GREATEST_UNIT));
        YearFractions z = Made.with(1, Made.E18);
        Made.row(z, 1, 3 * Made.E18 - 1);
        Due.is("just below 10 to the 36th, with a rest", 2, () -> z.times(0, 1, 3));
        Due.shows("just below 10 to the 36th", "1..1: 999999999999999999666666666666666666",
            () -> Picture.row(z, 2));
        z.weight(1, 1, 3 * Made.E18);
        Due.arithmetic("three times 10 to the 36th, divided by 3", () -> z.times(0, 1, 3));
    }

    private static void tooGreatAnywhere() {
        YearFractions x = Made.with(1, Made.E18, Made.E18, Made.E18);
        Made.row(x, 1, Made.E18, 1, 1);
        Made.row(x, 1, 1, Made.E18, 1);
        Made.row(x, 1, 1, 1, Made.E18);
        Due.arithmetic("in the first year", () -> x.times(0, 1, 1));
        Due.arithmetic("in the middle year", () -> x.times(2, 0, 1));
        Due.arithmetic("in the last year", () -> x.times(0, 3, 1));
        Made.row(x, 2, 1);
        Due.is("in a year that they have not together", 5, () -> x.times(1, 4, 1));
        Due.is("the next row", 6, () -> x.row(1, 1));
    }

    private static void indexFirst() {
        YearFractions x = Made.full();
        Due.index("times(0, 8, 1) of nine", () -> x.times(0, 8, 1));
        Due.index("times(-1, 0, 0) of nine, unit 0", () -> x.times(-1, 0, 0));
        YearFractions y = Made.several();
        Due.index("times(6, 0, 0), unit 0", () -> y.times(6, 0, 0));
        Due.index("times(0, 6, 1000000001), unit too great", () -> y.times(0, 6, GREATEST_UNIT + 1));
    }

    private static void stateNext() {
        YearFractions x = Made.full();
        Due.state("times(0, 1, 0) of nine, unit 0", () -> x.times(0, 1, 0));
        Due.state("times(0, 1, 1000000001) of nine, unit too great", () -> x.times(0, 1, GREATEST_UNIT + 1));
        Due.state("times(0, 4, 1) of nine, no year together", () -> x.times(0, 4, 1));
        Due.state("times(0, 0, 1) of nine, too great", () -> x.times(0, 0, 1));
    }

    private static void order() {
        YearFractions x = Made.several();
        Due.argument("times(2, 2, 0), too great", () -> x.times(2, 2, 0));
        Due.argument("times(2, 2, -1), too great", () -> x.times(2, 2, -1));
        Due.argument("times(2, 2, 1000000001), too great", () -> x.times(2, 2, GREATEST_UNIT + 1));
        Due.arithmetic("times(2, 2, 1000000000), too great", () -> x.times(2, 2, GREATEST_UNIT));
    }

    private static void changesNothing() {
        Due.changesNothing("times(0, 6, 1)", Due.INDEX, Made::several, x -> x.times(0, 6, 1));
        Due.changesNothing("times(-1, 0, 1)", Due.INDEX, Made::several, x -> x.times(-1, 0, 1));
        Due.changesNothing("times(0, 1, 7) of nine", Due.STATE, Made::full, x -> x.times(0, 1, 7));
        Due.changesNothing("times(0, 1, 0)", Due.ARGUMENT, Made::several, x -> x.times(0, 1, 0));
        Due.changesNothing("times(0, 4, 1)", Due.ARGUMENT, Made::several, x -> x.times(0, 4, 1));
        Due.changesNothing("times(0, 0, 1)", Due.ARITHMETIC, Made::several, x -> x.times(0, 0, 1));
        Due.changesNothing("times(2, 2, 100), with rests", Due.ARITHMETIC, Made::several, x -> x.times(2, 2, 100));
    }
}
