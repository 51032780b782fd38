/** Promise 12: about. */
public final class Promise12AboutTest {
    public static void main(String[] args) {
        Due.test("promise 12: 0 the first one", Promise12AboutTest::first);
        Due.test("promise 12: 1 the last one", Promise12AboutTest::last);
        Due.test("promise 12: 2 how many have no weight of 0", Promise12AboutTest::howMany);
        Due.test("promise 12: 2 how many have no weight of 0: none, and all 48", Promise12AboutTest::noneAndAll);
        Due.test("promise 12: 2 how many have no weight of 0: great weights with zeros behind",
            Promise12AboutTest::greatWeights);
        Due.test("promise 12: IndexOutOfBoundsException: row", Promise12AboutTest::noSuchRow);
        Due.test("promise 12: IllegalArgumentException: what is none of these", Promise12AboutTest::noSuchWhat);
        Due.test("promise 12: IndexOutOfBoundsException comes ahead of IllegalArgumentException",
            Promise12AboutTest::order);
        Due.test("promise 12: a refused call changes nothing", Promise12AboutTest::changesNothing);
        Due.end("Promise12AboutTest");
    }

    private static void first() {
        YearFractions x = Made.with(-7, 0, 0, 0);
        x.row(-9999, 48);
        x.row(9999, 1);
        Due.is("about(0, 0)", -7, () -> x.about(0, 0));
        Due.is("about(1, 0)", -9999, () -> x.about(1, 0));
        Due.is("about(2, 0)", 9999, () -> x.about(2, 0));
    }

    private static void last() {
        YearFractions x = Made.with(-7, 0, 0, 0);
        x.row(9952, 48);
        x.row(-9999, 1);
        Due.is("about(0, 1)", -5, () -> x.about(0, 1));
        Due.is("about(1, 1)", 9999, () -> x.about(1, 1));
        Due.is("about(2, 1)", -9999, () -> x.about(2, 1));
    }

    private static void howMany() {
        YearFractions x = Made.with(-1, 1, 0, 5);
        Due.is("two of three", 2, () -> x.about(0, 2));
        x.weight(0, 0, 1000000000L);
        Due.is("one more", 3, () -> x.about(0, 2));
        x.weight(0, 1, 0);
        Due.is("one less", 2, () -> x.about(0, 2));
        x.weight(0, -1, 9);
        Due.is("another weight", 2, () -> x.about(0, 2));
    }

    private static void noneAndAll() {
        YearFractions x = new YearFractions();
        x.row(1, 48);
        Due.is("none", 0, () -> x.about(0, 2));
        for (int year = 1; year <= 48; year++) {
            int many = year;
            x.weight(0, year, 1);
            Due.is("the first " + many, many, () -> x.about(0, 2));
        }
    }

    // Nothing but zeros in the last 9, 18 and 27 digits.
    private static void greatWeights() {
        YearFractions x = Made.with(1, 1000000000L, Made.E18, 0);
        Made.row(x, 1, 1000000000L, 1000000000L, Made.E18);
        x.times(0, 1, 1);
        Due.shows("the row", "1..3: 1000000000000000000 1000000000000000000000000000 0", () -> Picture.row(x, 2));
        Due.is("about(0, 2)", 2, () -> x.about(0, 2));
        Due.is("about(2, 2)", 2, () -> x.about(2, 2));
    }

    private static void noSuchRow() {
        YearFractions x = Made.with(1, 7);
        for (int row : Made.noRows(1)) {
            for (int i = 0; i < 3; i++) {
                int what = i;
                Due.index("about(" + row + ", " + what + ")", () -> x.about(row, what));
            }
        }
    }

    private static void noSuchWhat() {
        YearFractions x = Made.with(1, 7);
        for (int what : Made.outside(0, 2)) {
            Due.argument("about(0, " + what + ")", () -> x.about(0, what));
        }
    }

    private static void order() {
        YearFractions x = Made.with(1, 7);
        for (int what : Made.outside(0, 2)) {
            Due.index("about(1, " + what + ")", () -> x.about(1, what));
            Due.index("about(-1, " + what + ")", () -> x.about(-1, what));
        }
    }

    private static void changesNothing() {
        Due.changesNothing("about(6, 0)", Due.INDEX, Made::several, x -> x.about(6, 0));
        Due.changesNothing("about(0, 3)", Due.ARGUMENT, Made::several, x -> x.about(0, 3));
    }
}
