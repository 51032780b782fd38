/** Promise 4: add. */
public final class Promise04AddTest {
    public static void main(String[] args) {
        Due.test("promise 4: all years from the first to the last that either has", Promise04AddTest::allYears);
        Due.test("promise 4: all years, of one row within the other", Promise04AddTest::within);
        Due.test("promise 4: years that one of them hasn't have 0 there", Promise04AddTest::gap);
        Due.test("promise 4: the sums, of a row and itself", Promise04AddTest::itself);
        Due.test("promise 4: the sums, with all that goes over from digit to digit", Promise04AddTest::carries);
        Due.test("promise 4: a new row: those that it comes of stay, and it stays when they change",
            Promise04AddTest::newRow);
        Due.test("promise 4: its number", Promise04AddTest::number);
        Due.test("promise 4: IndexOutOfBoundsException: rows", Promise04AddTest::noSuchRow);
        Due.test("promise 4: IllegalStateException: there are eight", Promise04AddTest::full);
        Due.test("promise 4: IllegalArgumentException: it would have more than 48 years", Promise04AddTest::tooLong);
        Due.test("promise 4: IllegalArgumentException: more than 48 years, from the first year to the last one",
            Promise04AddTest::muchTooLong);
        Due.test("promise 4: ArithmeticException: a weight would be too great", Promise04AddTest::tooGreat);
        Due.test("promise 4: ArithmeticException: a weight would be too great, in any year",
            Promise04AddTest::tooGreatAnywhere);
        Due.test("promise 4: IndexOutOfBoundsException comes ahead of the others", Promise04AddTest::indexFirst);
        Due.test("promise 4: IllegalStateException comes next", Promise04AddTest::stateNext);
        Due.test("promise 4: IllegalArgumentException comes ahead of ArithmeticException", Promise04AddTest::order);
        Due.test("promise 4: a refused call changes nothing", Promise04AddTest::changesNothing);
        Due.end("Promise04AddTest");
    }

    private static void allYears() {
        YearFractions x = Made.with(-2, 1, 2, 3);
        Made.row(x, 0, 10, 20);
        x.add(0, 1);
        x.add(1, 0);
        Due.shows("add(0, 1)", "-2..1: 1 2 13 20", () -> Picture.row(x, 2));
        Due.shows("add(1, 0)", "-2..1: 1 2 13 20", () -> Picture.row(x, 3));
    }

    private static void within() {
        YearFractions x = Made.with(1, 1, 2, 3, 4);
        Made.row(x, 2, 10, 20);
        x.add(0, 1);
        x.add(1, 0);
        Due.shows("add(0, 1)", "1..4: 1 12 23 4", () -> Picture.row(x, 2));
        Due.shows("add(1, 0)", "1..4: 1 12 23 4", () -> Picture.row(x, 3));
    }

    private static void gap() {
        YearFractions x = Made.with(-2, 1, 2);
        Made.row(x, 2, 3);
        x.add(0, 1);
        x.add(1, 0);
        Due.shows("add(0, 1)", "-2..2: 1 2 0 0 3", () -> Picture.row(x, 2));
        Due.shows("add(1, 0)", "-2..2: 1 2 0 0 3", () -> Picture.row(x, 3));
    }

    private static void itself() {
        YearFractions x = Made.with(9998, 999999999L, 7);
        Due.is("add(0, 0)", 1, () -> x.add(0, 0));
        Due.shows("add(0, 0)", "9998..9999: 1999999998 14", () -> Picture.row(x, 1));
    }

    private static void carries() {
        YearFractions x = Made.with(1, 999999999L, Made.E18 - 1, Long.MAX_VALUE);
        Made.row(x, 1, 1, 1, Long.MAX_VALUE);
        x.add(0, 1);
        Due.shows("add(0, 1)", "1..3: 1000000000 1000000000000000000 18446744073709551614", () -> Picture.row(x, 2));
    }

    private static void newRow() {
        YearFractions x = Made.with(1, 1, 2);
        Made.row(x, 2, 10, 20);
        x.add(0, 1);
        x.weight(0, 1, 7);
        x.weight(2, 3, 8);
        Due.shows("row 0", "1..2: 7 2", () -> Picture.row(x, 0));
        Due.shows("row 1", "2..3: 10 20", () -> Picture.row(x, 1));
        Due.shows("row 2", "1..3: 1 12 8", () -> Picture.row(x, 2));
    }

    private static void number() {
        YearFractions x = Made.with(1, 1);
        for (int i = 1; i < 8; i++) {
            int number = i;
            Due.is("sum " + i, number, () -> x.add(number - 1, number - 1));
        }
        Due.shows("the eighth row", "1..1: 128", () -> Picture.row(x, 7));
    }

    private static void noSuchRow() {
        YearFractions x = Made.with(1, 1);
        for (int row : Made.noRows(1)) {
            Due.index("add(" + row + ", 0)", () -> x.add(row, 0));
            Due.index("add(0, " + row + ")", () -> x.add(0, row));
            Due.index("add(" + row + ", " + row + ")", () -> x.add(row, row));
        }
        Due.is("add(0, 0)", 1, () -> x.add(0, 0));
    }

    private static void full() {
        YearFractions x = Made.full();
        Due.state("add(0, 0) of nine", () -> x.add(0, 0));
        Due.state("add(7, 7) of nine", () -> x.add(7, 7));
        YearFractions y = new YearFractions();
        for (int i = 0; i < 7; i++) {
            y.row(1, 1);
        }
        Due.is("add(6, 0) of eight", 7, () -> y.add(6, 0));
        Due.state("add(6, 0) of nine", () -> y.add(6, 0));
    }

    private static void tooLong() {
        YearFractions x = Made.with(1, 4);
        Made.row(x, 48, 5);
        Made.row(x, 49, 6);
        Due.argument("49 years", () -> x.add(0, 2));
        Due.argument("49 years, turned round", () -> x.add(2, 0));
        Due.is("48 years", 3, () -> x.add(0, 1));
        Due.is("48 years, turned round", 4, () -> x.add(1, 0));
        Due.is("the first year", 1, () -> x.about(4, 0));
        Due.is("the last year", 48, () -> x.about(4, 1));
        Due.is("years with a weight", 2, () -> x.about(4, 2));
        Due.shows("the last year's weight", "5", () -> Picture.weight(x, 4, 48));
        Due.argument("48 years and one ahead", () -> x.add(4, x.row(0, 1)));
        Due.argument("48 years and one behind", () -> x.add(2, 4));
    }

    private static void muchTooLong() {
        YearFractions x = Made.with(-9999, 1);
        Made.row(x, 9999, 1);
        x.row(1, 48);
        x.row(25, 48);
        Due.argument("the ends", () -> x.add(0, 1));
        Due.argument("the ends, turned round", () -> x.add(1, 0));
        Due.argument("two of 48 years that have 24 together", () -> x.add(2, 3));
    }

    private static void tooGreat() {
        YearFractions x = Made.greatest(1, 1);
        Due.shows("the greatest weight", Made.GREATEST, () -> Picture.weight(x, 3, 1));
        Made.row(x, 1, 1);
        Due.arithmetic("the greatest and 1", () -> x.add(3, 4));
        Due.arithmetic("1 and the greatest", () -> x.add(4, 3));
        Due.arithmetic("the greatest and itself", () -> x.add(3, 3));
        Due.arithmetic("10 to the 36th less 10 to the 18th, and 10 to the 18th", () -> x.add(2, 0));
        x.weight(4, 1, 0);
        Due.is("the greatest and 0", 5, () -> x.add(3, 4));
        Due.shows("the greatest and 0", "1..1: " + Made.GREATEST, () -> Picture.row(x, 5));
    }

    private static void tooGreatAnywhere() {
        YearFractions x = Made.greatest(1, 3);
        Made.row(x, 1, 1);
        Made.row(x, 2, 1);
        Made.row(x, 3, 1);
        Due.arithmetic("in the first year", () -> x.add(3, 4));
        Due.arithmetic("in the middle year", () -> x.add(5, 3));
        Due.arithmetic("in the last year", () -> x.add(3, 6));
        Due.is("the next row", 7, () -> x.row(4, 1));
    }

    private static void indexFirst() {
        YearFractions x = Made.full();
        Due.index("add(0, 8) of nine", () -> x.add(0, 8));
        Due.index("add(-1, 0) of nine", () -> x.add(-1, 0));
    }

    private static void stateNext() {
        YearFractions x = Made.full();
        Due.state("add(6, 7) of nine, too long", () -> x.add(6, 7));
        Due.state("add(2, 2) of nine, too great", () -> x.add(2, 2));
    }

    private static void order() {
        YearFractions x = new YearFractions();
        x.row(1, 24);
        x.row(24, 26);
        x.weight(0, 24, Made.E18 - 1);
        x.weight(1, 24, Made.E18 - 1);
        x.times(0, 0, 1);
        x.times(1, 1, 1);
        Due.argument("too long and too great", () -> x.add(2, 3));
        Due.argument("too long and too great, turned round", () -> x.add(3, 2));
        Due.arithmetic("too great", () -> x.add(2, 2));
    }

    private static void changesNothing() {
        Due.changesNothing("add(0, 6)", Due.INDEX, Made::several, x -> x.add(0, 6));
        Due.changesNothing("add(-1, 0)", Due.INDEX, Made::several, x -> x.add(-1, 0));
        Due.changesNothing("add(0, 1) of nine", Due.STATE, Made::full, x -> x.add(0, 1));
        Due.changesNothing("add(0, 4)", Due.ARGUMENT, Made::several, x -> x.add(0, 4));
        Due.changesNothing("add(2, 2)", Due.ARITHMETIC, Made::several, x -> x.add(2, 2));
    }
}
