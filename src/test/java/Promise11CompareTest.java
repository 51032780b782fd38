/** Promise 11: compare. */
public final class Promise11CompareTest {
    public static void main(String[] args) {
        Due.test("promise 11: less (-1)", Promise11CompareTest::less);
        Due.test("promise 11: the same (0)", Promise11CompareTest::same);
        Due.test("promise 11: greater (1)", Promise11CompareTest::greater);
        Due.test("promise 11: 0 and the greatest weight", Promise11CompareTest::ends);
        Due.test("promise 11: great weights that differ by their last digit alone", Promise11CompareTest::lastDigit);
        Due.test("promise 11: great weights that differ by their first digit alone", Promise11CompareTest::firstDigit);
        Due.test("promise 11: IndexOutOfBoundsException: either row", Promise11CompareTest::noSuchRow);
        Due.test("promise 11: IndexOutOfBoundsException: either year, each of its own row",
            Promise11CompareTest::noSuchYear);
        Due.test("promise 11: a call, refused or not, changes nothing", Promise11CompareTest::changesNothing);
        Due.end("Promise11CompareTest");
    }

    private static void less() {
        YearFractions x = Made.with(1, 1, 2, 1999999999L, 2000000000L);
        Due.is("1 and 2", -1, () -> x.compare(0, 1, 0, 2));
        Due.is("2 and 2000000000", -1, () -> x.compare(0, 2, 0, 4));
        Due.is("1999999999 and 2000000000", -1, () -> x.compare(0, 3, 0, 4));
    }

    private static void same() {
        YearFractions x = Made.with(1, 5, 6, 5);
        Made.row(x, 7, 5, 6);
        Due.is("the same year", 0, () -> x.compare(0, 1, 0, 1));
        Due.is("two years", 0, () -> x.compare(0, 1, 0, 3));
        Due.is("two rows", 0, () -> x.compare(0, 2, 1, 8));
    }

    private static void greater() {
        YearFractions x = Made.with(1, 1, 2, 1999999999L, 2000000000L);
        Due.is("2 and 1", 1, () -> x.compare(0, 2, 0, 1));
        Due.is("2000000000 and 2", 1, () -> x.compare(0, 4, 0, 2));
        Due.is("2000000000 and 1999999999", 1, () -> x.compare(0, 4, 0, 3));
    }

    private static void ends() {
        YearFractions x = Made.greatest(1, 1);
        Made.row(x, 1, 0);
        Due.is("0 and the greatest", -1, () -> x.compare(4, 1, 3, 1));
        Due.is("the greatest and 0", 1, () -> x.compare(3, 1, 4, 1));
        Due.is("the greatest and itself", 0, () -> x.compare(3, 1, 3, 1));
        Due.is("0 and 0", 0, () -> x.compare(4, 1, 4, 1));
    }

    private static void lastDigit() {
        YearFractions x = Made.greatest(1, 1);
        x.weight(1, 1, Made.E18 - 2);
        x.add(2, 1);
        Due.is("one less and the greatest", -1, () -> x.compare(4, 1, 3, 1));
        Due.is("the greatest and one less", 1, () -> x.compare(3, 1, 4, 1));
    }

    private static void firstDigit() {
        YearFractions x = Made.with(1, 200000000000000000L);
        Made.row(x, 1, Made.E18);
        Made.row(x, 1, 100000000000000000L);
        x.times(0, 1, 1);
        x.times(2, 1, 1);
        Due.is("2 and 1, with 35 digits behind", 1, () -> x.compare(3, 1, 4, 1));
        Due.is("1 and 2, with 35 digits behind", -1, () -> x.compare(4, 1, 3, 1));
    }

    private static void noSuchRow() {
        YearFractions x = Made.with(1, 7);
        for (int row : Made.noRows(1)) {
            Due.index("compare(" + row + ", 1, 0, 1)", () -> x.compare(row, 1, 0, 1));
            Due.index("compare(0, 1, " + row + ", 1)", () -> x.compare(0, 1, row, 1));
            Due.index("compare(" + row + ", 1, " + row + ", 1)", () -> x.compare(row, 1, row, 1));
        }
    }

    private static void noSuchYear() {
        YearFractions x = Made.with(-3, 7, 8, 9);
        Made.row(x, 5, 7, 8);
        for (int year : Made.noYears(-3, -1)) {
            Due.index("compare(0, " + year + ", 1, 5)", () -> x.compare(0, year, 1, 5));
            Due.index("compare(1, 5, 0, " + year + ")", () -> x.compare(1, 5, 0, year));
        }
        Due.index("each year of the other row", () -> x.compare(0, 5, 1, -3));
        Due.is("the first years", 0, () -> x.compare(0, -3, 1, 5));
        Due.is("the last years", 1, () -> x.compare(0, -1, 1, 6));
    }

    private static void changesNothing() {
        Due.changesNothing("compare(6, 1, 0, 1)", Due.INDEX, Made::several, x -> x.compare(6, 1, 0, 1));
        Due.changesNothing("compare(0, 1, 0, 3)", Due.INDEX, Made::several, x -> x.compare(0, 1, 0, 3));
        YearFractions x = Made.several();
        x.compare(0, 1, 2, 2);
        Due.shows("what is there behind compare(0, 1, 2, 2)", Picture.of(Made.several()), () -> Picture.of(x));
    }
}
