/** Promise 9: digit. */
public final class Promise09DigitTest {
    public static void main(String[] args) {
        Due.test("promise 9: a decimal digit of a weight: 0 the last one", Promise09DigitTest::digits);
        Due.test("promise 9: all digits of a weight of 0", Promise09DigitTest::ofNull);
        Due.test("promise 9: all 36 digits of the greatest weight", Promise09DigitTest::ofGreatest);
        Due.test("promise 9: all 36 digits, each another one than its neighbours", Promise09DigitTest::places);
        Due.test("promise 9: IndexOutOfBoundsException: row", Promise09DigitTest::noSuchRow);
        Due.test("promise 9: IndexOutOfBoundsException: year", Promise09DigitTest::noSuchYear);
        Due.test("promise 9: IndexOutOfBoundsException: i is not 0 ..", Promise09DigitTest::tooSmall);
        Due.test("promise 9: IndexOutOfBoundsException: i is not .. 35", Promise09DigitTest::tooGreat);
        Due.test("promise 9: a call, refused or not, changes nothing", Promise09DigitTest::changesNothing);
        Due.end("Promise09DigitTest");
    }

    private static void digits() {
        YearFractions x = Made.with(3, 1, Long.MAX_VALUE, 2);
        String text = "000000000000000009223372036854775807";
        for (int i = 0; i < 36; i++) {
            int at = i;
            Due.is("digit(0, 4, " + i + ")", text.charAt(35 - i) - '0', () -> x.digit(0, 4, at));
        }
        Due.is("digit(0, 3, 0)", 1, () -> x.digit(0, 3, 0));
        Due.is("digit(0, 5, 0)", 2, () -> x.digit(0, 5, 0));
        Due.is("digit(0, 5, 1)", 0, () -> x.digit(0, 5, 1));
    }

    private static void ofNull() {
        YearFractions x = Made.with(0, 0);
        for (int i = 0; i < 36; i++) {
            int at = i;
            Due.is("digit(0, 0, " + i + ")", 0, () -> x.digit(0, 0, at));
        }
    }

    private static void ofGreatest() {
        YearFractions x = Made.greatest(1, 48);
        for (int i = 0; i < 36; i++) {
            int at = i;
            Due.is("digit(3, 1, " + i + ")", 9, () -> x.digit(3, 1, at));
            Due.is("digit(3, 48, " + i + ")", 9, () -> x.digit(3, 48, at));
        }
    }

    // 123456789012345678 times 10 to the 18th, and 901234567890123456 to it.
    private static void places() {
        YearFractions x = Made.with(1, 123456789012345678L);
        Made.row(x, 1, Made.E18);
        Made.row(x, 1, 901234567890123456L);
        x.times(0, 1, 1);
        x.add(3, 2);
        for (int i = 0; i < 36; i++) {
            int at = i;
            Due.is("digit(4, 1, " + i + ")", (36 - i) % 10, () -> x.digit(4, 1, at));
        }
    }

    private static void noSuchRow() {
        YearFractions x = Made.with(1, 7);
        for (int row : Made.noRows(1)) {
            Due.index("digit(" + row + ", 1, 0)", () -> x.digit(row, 1, 0));
        }
    }

    private static void noSuchYear() {
        YearFractions x = Made.with(-3, 7, 8, 9);
        for (int year : Made.noYears(-3, -1)) {
            Due.index("digit(0, " + year + ", 0)", () -> x.digit(0, year, 0));
        }
        Due.is("the first year", 7, () -> x.digit(0, -3, 0));
        Due.is("the last year", 9, () -> x.digit(0, -1, 0));
    }

    private static void tooSmall() {
        YearFractions x = Made.with(1, 7);
        Due.index("digit(0, 1, -1)", () -> x.digit(0, 1, -1));
        Due.index("digit(0, 1, -9)", () -> x.digit(0, 1, -9));
        Due.index("digit(0, 1, the least)", () -> x.digit(0, 1, Integer.MIN_VALUE));
        Due.is("digit(0, 1, 0)", 7, () -> x.digit(0, 1, 0));
    }

    private static void tooGreat() {
        YearFractions x = Made.greatest(1, 1);
        int[] wrong = {36, 37, 38, 72, Integer.MAX_VALUE};
        for (int i : wrong) {
            Due.index("digit(3, 1, " + i + ")", () -> x.digit(3, 1, i));
        }
        Due.is("digit(3, 1, 35)", 9, () -> x.digit(3, 1, 35));
    }

    private static void changesNothing() {
        Due.changesNothing("digit(6, 1, 0)", Due.INDEX, Made::several, x -> x.digit(6, 1, 0));
        Due.changesNothing("digit(0, 3, 0)", Due.INDEX, Made::several, x -> x.digit(0, 3, 0));
        Due.changesNothing("digit(0, 1, 36)", Due.INDEX, Made::several, x -> x.digit(0, 1, 36));
        YearFractions x = Made.several();
        x.digit(2, 2, 35);
        Due.shows("what is there behind digit(2, 2, 35)", Picture.of(Made.several()), () -> Picture.of(x));
    }
}
