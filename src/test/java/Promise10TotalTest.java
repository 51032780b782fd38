/** Promise 10: total. */
public final class Promise10TotalTest {
    public static void main(String[] args) {
        Due.test("promise 10: a digit of all weights of a row together: 0 the last one", Promise10TotalTest::together);
        Due.test("promise 10: all weights together, with all that goes over from digit to digit",
            Promise10TotalTest::carries);
        Due.test("promise 10: all weights together, as great as they can be", Promise10TotalTest::greatest);
        Due.test("promise 10: all weights together: none but 0", Promise10TotalTest::ofNull);
        Due.test("promise 10: all weights together, as they are now", Promise10TotalTest::now);
        Due.test("promise 10: IndexOutOfBoundsException: row", Promise10TotalTest::noSuchRow);
        Due.test("promise 10: IndexOutOfBoundsException: i is not 0 ..", Promise10TotalTest::tooSmall);
        Due.test("promise 10: IndexOutOfBoundsException: i is not .. 37", Promise10TotalTest::tooGreat);
        Due.test("promise 10: a call, refused or not, changes nothing", Promise10TotalTest::changesNothing);
        Due.end("Promise10TotalTest");
    }

    private static void together() {
        YearFractions x = Made.with(-1, 40, 300, 2);
        Made.row(x, 5, 9);
        Due.is("total(0, 0)", 2, () -> x.total(0, 0));
        Due.is("total(0, 1)", 4, () -> x.total(0, 1));
        Due.is("total(0, 2)", 3, () -> x.total(0, 2));
        Due.is("total(0, 3)", 0, () -> x.total(0, 3));
        Due.is("total(0, 37)", 0, () -> x.total(0, 37));
        Due.is("total(1, 0)", 9, () -> x.total(1, 0));
    }

    private static void carries() {
        YearFractions x = Made.with(1, 999999999L, 1, Made.E18 - 1000000000L);
        Due.shows("total()", "1000000000000000000", () -> Picture.total(x, 0));
        YearFractions y = Made.with(1, Long.MAX_VALUE, Long.MAX_VALUE, Long.MAX_VALUE);
        Due.shows("three times the greatest w", "27670116110564327421", () -> Picture.total(y, 0));
    }

    // 48 times (10 to the 36th less 1)
    private static void greatest() {
        YearFractions x = Made.greatest(1, 48);
        String text = "47999999999999999999999999999999999952";
        for (int i = 0; i < 38; i++) {
            int at = i;
            Due.is("total(3, " + i + ")", text.charAt(37 - i) - '0', () -> x.total(3, at));
        }
    }

    private static void ofNull() {
        YearFractions x = new YearFractions();
        x.row(1, 48);
        for (int i = 0; i < 38; i++) {
            int at = i;
            Due.is("total(0, " + i + ")", 0, () -> x.total(0, at));
        }
    }

    private static void now() {
        YearFractions x = Made.with(1, 5, 6);
        Due.shows("total()", "11", () -> Picture.total(x, 0));
        x.weight(0, 2, 94);
        Due.shows("total() of other weights", "99", () -> Picture.total(x, 0));
        Due.shows("total() again", "99", () -> Picture.total(x, 0));
    }

    private static void noSuchRow() {
        YearFractions x = Made.with(1, 7);
        for (int row : Made.noRows(1)) {
            Due.index("total(" + row + ", 0)", () -> x.total(row, 0));
        }
    }

    private static void tooSmall() {
        YearFractions x = Made.with(1, 7);
        Due.index("total(0, -1)", () -> x.total(0, -1));
        Due.index("total(0, -9)", () -> x.total(0, -9));
        Due.index("total(0, the least)", () -> x.total(0, Integer.MIN_VALUE));
        Due.is("total(0, 0)", 7, () -> x.total(0, 0));
    }

    private static void tooGreat() {
        YearFractions x = Made.greatest(1, 48);
        int[] wrong = {38, 39, 72, Integer.MAX_VALUE};
        for (int i : wrong) {
            Due.index("total(3, " + i + ")", () -> x.total(3, i));
        }
        Due.is("total(3, 36)", 7, () -> x.total(3, 36));
        Due.is("total(3, 37)", 4, () -> x.total(3, 37));
    }

    private static void changesNothing() {
        Due.changesNothing("total(6, 0)", Due.INDEX, Made::several, x -> x.total(6, 0));
        Due.changesNothing("total(0, 38)", Due.INDEX, Made::several, x -> x.total(0, 38));
        YearFractions x = Made.several();
        x.total(2, 37);
        Due.shows("what is there behind total(2, 37)", Picture.of(Made.several()), () -> Picture.of(x));
    }
}
