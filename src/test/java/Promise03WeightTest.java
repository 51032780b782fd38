/** Promise 3: weight. */
public final class Promise03WeightTest {
    public static void main(String[] args) {
        Due.test("promise 3: whether it was another one", Promise03WeightTest::another);
        Due.test("promise 3: whether it was another one: beyond what w can be", Promise03WeightTest::anotherGreat);
        Due.test("promise 3: a year's weight, and no other year's or row's", Promise03WeightTest::itsOwn);
        Due.test("promise 3: a weight from 0 on", Promise03WeightTest::fromNullOn);
        Due.test("promise 3: a weight as great as w can be", Promise03WeightTest::asGreatAsCanBe);
        Due.test("promise 3: IndexOutOfBoundsException: row", Promise03WeightTest::noSuchRow);
        Due.test("promise 3: IndexOutOfBoundsException: row 7, if there are seven", Promise03WeightTest::lastRow);
        Due.test("promise 3: IndexOutOfBoundsException: the year is not in it", Promise03WeightTest::noSuchYear);
        Due.test("promise 3: IllegalArgumentException: w is below 0", Promise03WeightTest::belowNull);
        Due.test("promise 3: IndexOutOfBoundsException comes ahead of IllegalArgumentException",
            Promise03WeightTest::order);
        Due.test("promise 3: a refused call changes nothing", Promise03WeightTest::changesNothing);
        Due.end("Promise03WeightTest");
    }

    private static void isAnother(YearFractions x, boolean want, int year, long w) {
        Due.is("weight(0, " + year + ", " + w + ")", want ? 1 : 0, () -> x.weight(0, year, w) ? 1 : 0);
        Due.shows("the weight", String.valueOf(w), () -> Picture.weight(x, 0, year));
    }

    private static void another() {
        YearFractions x = Made.with(-3, 0);
        isAnother(x, false, -3, 0);
        isAnother(x, true, -3, 5);
        isAnother(x, false, -3, 5);
        isAnother(x, true, -3, 4);
        isAnother(x, true, -3, 1000000004L);
        isAnother(x, true, -3, 4);
        isAnother(x, true, -3, 0);
        isAnother(x, false, -3, 0);
    }

    private static void anotherGreat() {
        YearFractions x = Made.with(1, Made.E18 / 10);
        x.times(0, 0, 1);
        Due.shows("a weight of 10 to the 34th", "10000000000000000000000000000000000", () -> Picture.weight(x, 1, 1));
        Due.is("weight(1, 1, 0)", 1, () -> x.weight(1, 1, 0) ? 1 : 0);
        Due.shows("the weight", "0", () -> Picture.weight(x, 1, 1));
        Due.is("weight(1, 1, 0) again", 0, () -> x.weight(1, 1, 0) ? 1 : 0);
    }

    private static void itsOwn() {
        YearFractions x = Made.with(-1, 1, 2, 3);
        Made.row(x, -1, 4, 5, 6);
        x.weight(0, 0, 9);
        Due.shows("row 0", "-1..1: 1 9 3", () -> Picture.row(x, 0));
        Due.shows("row 1", "-1..1: 4 5 6", () -> Picture.row(x, 1));
        x.weight(1, -1, 0);
        x.weight(1, 1, 0);
        Due.shows("row 0 again", "-1..1: 1 9 3", () -> Picture.row(x, 0));
        Due.shows("row 1 again", "-1..1: 0 5 0", () -> Picture.row(x, 1));
    }

    private static void fromNullOn() {
        YearFractions x = Made.with(1, 8);
        isAnother(x, true, 1, 0);
        Due.is("years with a weight", 0, () -> x.about(0, 2));
        isAnother(x, true, 1, 1);
        Due.is("years with a weight", 1, () -> x.about(0, 2));
    }

    private static void asGreatAsCanBe() {
        YearFractions x = Made.with(1, 8);
        isAnother(x, true, 1, Long.MAX_VALUE);
        isAnother(x, false, 1, Long.MAX_VALUE);
        isAnother(x, true, 1, Long.MAX_VALUE - 1);
    }

    private static void noSuchRow() {
        YearFractions x = Made.with(1, 8);
        for (int row : Made.noRows(1)) {
            Due.index("weight(" + row + ", 1, 1)", () -> x.weight(row, 1, 1) ? 1 : 0);
        }
        YearFractions y = Made.full();
        for (int row : Made.noRows(8)) {
            Due.index("weight(" + row + ", 1, 1) of eight", () -> y.weight(row, 1, 1) ? 1 : 0);
        }
    }

    private static void lastRow() {
        YearFractions x = new YearFractions();
        for (int i = 0; i < 7; i++) {
            x.row(1, 1);
        }
        Due.index("weight(7, 1, 1) of seven", () -> x.weight(7, 1, 1) ? 1 : 0);
        x.row(1, 1);
        Due.is("weight(7, 1, 1) of eight", 1, () -> x.weight(7, 1, 1) ? 1 : 0);
    }

    private static void noSuchYear() {
        YearFractions x = Made.with(-3, 1, 2, 3, 4, 5);
        for (int year : Made.noYears(-3, 1)) {
            Due.index("weight(0, " + year + ", 1)", () -> x.weight(0, year, 1) ? 1 : 0);
        }
        Due.is("the first year", 1, () -> x.weight(0, -3, 8) ? 1 : 0);
        Due.is("the last year", 1, () -> x.weight(0, 1, 9) ? 1 : 0);
        Due.shows("the row", "-3..1: 8 2 3 4 9", () -> Picture.row(x, 0));
    }

    private static void belowNull() {
        YearFractions x = Made.with(1, 8);
        Due.argument("weight(0, 1, -1)", () -> x.weight(0, 1, -1) ? 1 : 0);
        Due.argument("weight(0, 1, -8)", () -> x.weight(0, 1, -8) ? 1 : 0);
        Due.argument("weight(0, 1, the least)", () -> x.weight(0, 1, Long.MIN_VALUE) ? 1 : 0);
        Due.argument("weight(0, 1, -4294967296)", () -> x.weight(0, 1, -4294967296L) ? 1 : 0);
    }

    private static void order() {
        YearFractions x = Made.with(1, 8);
        Due.index("weight(1, 1, -1)", () -> x.weight(1, 1, -1) ? 1 : 0);
        Due.index("weight(-1, 1, -1)", () -> x.weight(-1, 1, -1) ? 1 : 0);
        Due.index("weight(0, 0, -1)", () -> x.weight(0, 0, -1) ? 1 : 0);
        Due.index("weight(0, 2, -1)", () -> x.weight(0, 2, -1) ? 1 : 0);
    }

    private static void changesNothing() {
        Due.changesNothing("weight(6, 1, 2)", Due.INDEX, Made::several, x -> x.weight(6, 1, 2) ? 1 : 0);
        Due.changesNothing("weight(0, 0, 2)", Due.INDEX, Made::several, x -> x.weight(0, 0, 2) ? 1 : 0);
        Due.changesNothing("weight(0, 3, 2)", Due.INDEX, Made::several, x -> x.weight(0, 3, 2) ? 1 : 0);
        Due.changesNothing("weight(0, 1, -1)", Due.ARGUMENT, Made::several, x -> x.weight(0, 1, -1) ? 1 : 0);
    }
}
