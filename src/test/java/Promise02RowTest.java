/** Promise 2: row. */
public final class Promise02RowTest {
    public static void main(String[] args) {
        Due.test("promise 2: a row of so many years", Promise02RowTest::soManyYears);
        Due.test("promise 2: years as in sums: 0 is the one ahead of 1", Promise02RowTest::yearNull);
        Due.test("promise 2: all weights 0", Promise02RowTest::allNull);
        Due.test("promise 2: all weights 0, where a row was that went", Promise02RowTest::allNullBehindClear);
        Due.test("promise 2: all weights 0, where a sum or product was refused", Promise02RowTest::allNullBehindRefused);
        Due.test("promise 2: its number: 0 .. 7, one behind the other", Promise02RowTest::numbers);
        Due.test("promise 2: IllegalStateException: there are eight", Promise02RowTest::full);
        Due.test("promise 2: IllegalStateException: there are eight, sums and products among them",
            Promise02RowTest::fullOfSums);
        Due.test("promise 2: IllegalArgumentException: many is not 1 ..", Promise02RowTest::tooFew);
        Due.test("promise 2: IllegalArgumentException: many is not .. 48", Promise02RowTest::tooMany);
        Due.test("promise 2: IllegalArgumentException: a year not -9999 ..", Promise02RowTest::tooEarly);
        Due.test("promise 2: IllegalArgumentException: a year not .. 9999", Promise02RowTest::tooLate);
        Due.test("promise 2: IllegalArgumentException: a year whose number would wrap around",
            Promise02RowTest::wrapAround);
        Due.test("promise 2: IllegalStateException comes ahead of IllegalArgumentException", Promise02RowTest::order);
        Due.test("promise 2: a refused call changes nothing", Promise02RowTest::changesNothing);
        Due.end("Promise02RowTest");
    }

    private static void soManyYears() {
        YearFractions x = new YearFractions();
        Due.is("row(7, 5)", 0, () -> x.row(7, 5));
        Due.is("its first year", 7, () -> x.about(0, 0));
        Due.is("its last year", 11, () -> x.about(0, 1));
    }

    private static void yearNull() {
        YearFractions x = new YearFractions();
        x.row(-1, 3);
        Due.is("the last year", 1, () -> x.about(0, 1));
        Due.is("the weight of year 0", 1, () -> x.weight(0, 0, 4) ? 1 : 0);
        Due.shows("the row", "-1..1: 0 4 0", () -> Picture.row(x, 0));
    }

    private static void allNull() {
        YearFractions x = new YearFractions();
        x.row(-3, 4);
        Due.shows("the row", "-3..0: 0 0 0 0", () -> Picture.row(x, 0));
        x.row(1, 48);
        Due.is("years with a weight", 0, () -> x.about(1, 2));
        Due.shows("all weights together", "0", () -> Picture.total(x, 1));
    }

    private static void allNullBehindClear() {
        YearFractions x = Made.greatest(1, 48);
        x.clear();
        for (int i = 0; i < 4; i++) {
            int row = x.row(100, 48);
            Due.is("years with a weight in row " + row, 0, () -> x.about(row, 2));
        }
        Due.shows("all weights together", "0", () -> Picture.total(x, 3));
    }

    private static void allNullBehindRefused() {
        YearFractions x = Made.several();
        Due.arithmetic("add(2, 2)", () -> x.add(2, 2));
        Due.arithmetic("times(0, 0, 1)", () -> x.times(0, 0, 1));
        Due.is("row(1, 2)", 6, () -> x.row(1, 2));
        Due.shows("the row", "1..2: 0 0", () -> Picture.row(x, 6));
    }

    private static void numbers() {
        YearFractions x = new YearFractions();
        for (int i = 0; i < 8; i++) {
            int number = i;
            Due.is("row " + i, number, () -> x.row(10 * number, 1 + number));
        }
        for (int i = 0; i < 8; i++) {
            int number = i;
            Due.is("the first year of row " + i, 10 * number, () -> x.about(number, 0));
            Due.is("the last year of row " + i, 11 * number, () -> x.about(number, 1));
        }
    }

    private static void full() {
        YearFractions x = new YearFractions();
        for (int i = 0; i < 8; i++) {
            x.row(1, 48);
        }
        Due.state("a ninth row", () -> x.row(1, 1));
        Due.state("a ninth row again", () -> x.row(1, 1));
        x.clear();
        Due.is("row() with room again", 0, () -> x.row(1, 1));
    }

    private static void fullOfSums() {
        YearFractions x = new YearFractions();
        x.row(1, 1);
        for (int i = 0; i < 3; i++) {
            x.add(0, 0);
            x.times(0, 0, 1);
        }
        Due.is("the eighth row", 7, () -> x.row(1, 1));
        Due.state("a ninth row", () -> x.row(1, 1));
    }

    private static void tooFew() {
        YearFractions x = new YearFractions();
        int[] wrong = {0, -1, -48, Integer.MIN_VALUE};
        for (int many : wrong) {
            Due.argument("row(1, " + many + ")", () -> x.row(1, many));
        }
        Due.is("row(1, 1)", 0, () -> x.row(1, 1));
        Due.is("its last year", 1, () -> x.about(0, 1));
    }

    private static void tooMany() {
        YearFractions x = new YearFractions();
        int[] wrong = {49, 50, 256, Integer.MAX_VALUE};
        for (int many : wrong) {
            Due.argument("row(1, " + many + ")", () -> x.row(1, many));
        }
        Due.is("row(1, 48)", 0, () -> x.row(1, 48));
        Due.is("its last year", 48, () -> x.about(0, 1));
        Due.is("the weight of its last year", 1, () -> x.weight(0, 48, 1) ? 1 : 0);
    }

    private static void tooEarly() {
        YearFractions x = new YearFractions();
        Due.argument("row(-10000, 1)", () -> x.row(-10000, 1));
        Due.argument("row(-10000, 2), with one year that is fine", () -> x.row(-10000, 2));
        Due.argument("row(-10046, 48), with one year that is fine", () -> x.row(-10046, 48));
        Due.is("row(-9999, 1)", 0, () -> x.row(-9999, 1));
        Due.is("row(-9999, 48)", 1, () -> x.row(-9999, 48));
        Due.is("its last year", -9952, () -> x.about(1, 1));
    }

    private static void tooLate() {
        YearFractions x = new YearFractions();
        Due.argument("row(10000, 1)", () -> x.row(10000, 1));
        Due.argument("row(9999, 2), with one year that is fine", () -> x.row(9999, 2));
        Due.argument("row(9953, 48), with one year that is not", () -> x.row(9953, 48));
        Due.is("row(9999, 1)", 0, () -> x.row(9999, 1));
        Due.is("row(9952, 48)", 1, () -> x.row(9952, 48));
        Due.is("its last year", 9999, () -> x.about(1, 1));
    }

    private static void wrapAround() {
        YearFractions x = new YearFractions();
        int[] firsts = {Integer.MAX_VALUE, Integer.MAX_VALUE - 46, Integer.MIN_VALUE, Integer.MIN_VALUE + 9999};
        int[] manys = {1, 2, 48, Integer.MAX_VALUE, Integer.MIN_VALUE};
        for (int first : firsts) {
            for (int many : manys) {
                Due.argument("row(" + first + ", " + many + ")", () -> x.row(first, many));
            }
        }
        Due.argument("row(1, the greatest)", () -> x.row(1, Integer.MAX_VALUE));
        Due.argument("row(2, the greatest)", () -> x.row(2, Integer.MAX_VALUE));
    }

    private static void order() {
        YearFractions x = Made.full();
        Due.state("row(1, 0) of nine", () -> x.row(1, 0));
        Due.state("row(1, 49) of nine", () -> x.row(1, 49));
        Due.state("row(-10000, 1) of nine", () -> x.row(-10000, 1));
        Due.state("row(10000, 1) of nine", () -> x.row(10000, 1));
    }

    private static void changesNothing() {
        Due.changesNothing("row(1, 1) of nine", Due.STATE, Made::full, x -> x.row(1, 1));
        Due.changesNothing("row(1, 0)", Due.ARGUMENT, Made::several, x -> x.row(1, 0));
        Due.changesNothing("row(1, 49)", Due.ARGUMENT, Made::several, x -> x.row(1, 49));
        Due.changesNothing("row(-10000, 1)", Due.ARGUMENT, Made::several, x -> x.row(-10000, 1));
        Due.changesNothing("row(9999, 2)", Due.ARGUMENT, Made::several, x -> x.row(9999, 2));
    }
}
