/** Promise 17: clear. */
public final class Promise17ClearTest {
    public static void main(String[] args) {
        Due.test("promise 17: how many rows there were", Promise17ClearTest::howMany);
        Due.test("promise 17: how many rows there were: none", Promise17ClearTest::none);
        Due.test("promise 17: how many rows there were: eight", Promise17ClearTest::eight);
        Due.test("promise 17: all rows go", Promise17ClearTest::allRowsGo);
        Due.test("promise 17: all rows go: numbers begin with 0 again", Promise17ClearTest::numbersBeginAgain);
        Due.test("promise 17: and the latest least set", Promise17ClearTest::leastSetGoes);
        Due.test("promise 17: and rests", Promise17ClearTest::restsGo);
        Due.test("promise 17: then the object is as a new one", Promise17ClearTest::asNew);
        Due.end("Promise17ClearTest");
    }

    private static void howMany() {
        YearFractions x = Made.with(1, 7);
        Due.is("clear() of one", 1, x::clear);
        x.row(1, 1);
        x.add(0, 0);
        x.times(0, 1, 1);
        Due.is("clear() of three", 3, x::clear);
    }

    private static void none() {
        YearFractions x = new YearFractions();
        Due.is("clear()", 0, x::clear);
        Due.is("clear() again", 0, x::clear);
        x.row(1, 1);
        x.clear();
        Due.is("clear() behind clear()", 0, x::clear);
    }

    private static void eight() {
        YearFractions x = Made.full();
        Due.state("a ninth row", () -> x.row(1, 1));
        Due.is("clear()", 8, x::clear);
        Due.is("row() behind it", 0, () -> x.row(1, 1));
    }

    private static void allRowsGo() {
        YearFractions x = Made.full();
        x.clear();
        for (int i = 0; i < 8; i++) {
            int row = i;
            Due.index("about(" + row + ", 0)", () -> x.about(row, 0));
            Due.index("total(" + row + ", 0)", () -> x.total(row, 0));
            Due.index("add(" + row + ", " + row + ")", () -> x.add(row, row));
        }
    }

    private static void numbersBeginAgain() {
        YearFractions x = Made.several();
        x.clear();
        Due.is("the first row", 0, () -> x.row(1, 2));
        Due.shows("the first row", "1..2: 0 0", () -> Picture.row(x, 0));
        Due.index("row 1", () -> x.about(1, 0));
        Due.is("the second row", 1, () -> x.add(0, 0));
    }

    private static void leastSetGoes() {
        YearFractions x = Made.with(1, 5, 0, 6);
        x.least(0, 1, 1);
        x.clear();
        for (int k = 0; k < 2; k++) {
            int span = k;
            Due.index("span(" + span + ", 0)", () -> x.span(span, 0));
            Due.index("span(" + span + ", 1)", () -> x.span(span, 1));
        }
        Made.row(x, 1, 5, 0, 6);
        Due.index("span(0, 0) with a new row", () -> x.span(0, 0));
    }

    private static void restsGo() {
        YearFractions x = Made.with(1, 7);
        x.times(0, 0, 10);
        Due.is("rest()", 9, x::rest);
        x.clear();
        Due.is("rest() behind clear()", 0, x::rest);
    }

    private static void asNew() {
        YearFractions x = Made.full();
        x.clear();
        Due.shows("what is there", Picture.of(new YearFractions()), () -> Picture.of(x));
    }
}
