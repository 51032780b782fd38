/** Promise 8: span. */
public final class Promise08SpanTest {
    public static void main(String[] args) {
        Due.test("promise 8: span k's first year (end 0) or last one (1)", Promise08SpanTest::firstAndLast);
        Due.test("promise 8: spans from the earliest on", Promise08SpanTest::fromTheEarliestOn);
        Due.test("promise 8: of the latest least set, and of no earlier one", Promise08SpanTest::latest);
        Due.test("promise 8: of the latest least set that was not refused", Promise08SpanTest::refusedLeast);
        Due.test("promise 8: of the latest least set, whatever becomes of the row", Promise08SpanTest::kept);
        Due.test("promise 8: IndexOutOfBoundsException: there is no such span", Promise08SpanTest::noSuchSpan);
        Due.test("promise 8: IndexOutOfBoundsException: none at first", Promise08SpanTest::noneAtFirst);
        Due.test("promise 8: IndexOutOfBoundsException: none of an empty set", Promise08SpanTest::noneOfEmpty);
        Due.test("promise 8: IndexOutOfBoundsException: end is neither", Promise08SpanTest::noSuchEnd);
        Due.test("promise 8: a refused call changes nothing", Promise08SpanTest::changesNothing);
        Due.end("Promise08SpanTest");
    }

    private static void spanIs(YearFractions x, int k, int first, int last) {
        Due.is("span(" + k + ", 0)", first, () -> x.span(k, 0));
        Due.is("span(" + k + ", 1)", last, () -> x.span(k, 1));
    }

    private static void firstAndLast() {
        YearFractions x = Made.with(-2, 5, 6, 7, 0, 8);
        x.least(0, 1, 1);
        spanIs(x, 0, -2, 0);
        spanIs(x, 1, 2, 2);
        YearFractions y = Made.with(-9999, 1);
        y.least(0, 1, 1);
        spanIs(y, 0, -9999, -9999);
        YearFractions z = Made.with(9998, 1, 1);
        z.least(0, 1, 1);
        spanIs(z, 0, 9998, 9999);
    }

    private static void fromTheEarliestOn() {
        YearFractions x = Made.with(1, 1, 0, 2, 0, 9, 0, 3);
        Due.is("least(0, 1, 1)", 4, () -> x.least(0, 1, 1));
        spanIs(x, 0, 1, 1);
        spanIs(x, 1, 3, 3);
        spanIs(x, 2, 5, 5);
        spanIs(x, 3, 7, 7);
    }

    private static void latest() {
        YearFractions x = Made.with(1, 5, 0, 6);
        Made.row(x, 20, 1, 1);
        x.least(0, 1, 1);
        spanIs(x, 1, 3, 3);
        x.least(1, 1, 1);
        spanIs(x, 0, 20, 21);
        Due.index("span(1, 0)", () -> x.span(1, 0));
        x.least(0, 1, 2);
        spanIs(x, 0, 3, 3);
        Due.index("span(1, 0) again", () -> x.span(1, 0));
    }

    private static void refusedLeast() {
        YearFractions x = Made.with(1, 5, 0, 6);
        x.row(20, 2);
        x.least(0, 1, 1);
        Due.arithmetic("least(1, 1, 1)", () -> x.least(1, 1, 1));
        Due.argument("least(0, 2, 1)", () -> x.least(0, 2, 1));
        Due.argument("least(0, 0, 0)", () -> x.least(0, 0, 0));
        Due.index("least(2, 1, 1)", () -> x.least(2, 1, 1));
        Due.shows("the spans", "1..1 3..3", () -> Picture.spans(x));
    }

    private static void kept() {
        YearFractions x = Made.with(1, 5, 0, 6);
        x.least(0, 1, 1);
        x.weight(0, 1, 0);
        x.weight(0, 2, 90);
        x.add(0, 0);
        x.times(0, 0, 1);
        x.row(1, 48);
        Due.shows("the spans", "1..1 3..3", () -> Picture.spans(x));
    }

    private static void noSuchSpan() {
        YearFractions x = Made.with(1, 5, 0, 6);
        x.least(0, 1, 1);
        int[] wrong = {-1, 2, 3, 24, 48, Integer.MIN_VALUE, Integer.MAX_VALUE};
        for (int k : wrong) {
            Due.index("span(" + k + ", 0)", () -> x.span(k, 0));
            Due.index("span(" + k + ", 1)", () -> x.span(k, 1));
        }
        YearFractions y = new YearFractions();
        y.row(1, 48);
        for (int year = 1; year <= 48; year += 2) {
            y.weight(0, year, 1);
        }
        y.least(0, 1, 1);
        spanIs(y, 23, 47, 47);
        Due.index("span(24, 0) of 24", () -> y.span(24, 0));
        Due.index("span(24, 1) of 24", () -> y.span(24, 1));
    }

    private static void noneAtFirst() {
        YearFractions x = new YearFractions();
        Due.index("span(0, 0)", () -> x.span(0, 0));
        Due.index("span(0, 1)", () -> x.span(0, 1));
        Made.row(x, 1, 5, 0, 6);
        Due.index("span(0, 0) with a row", () -> x.span(0, 0));
        Due.argument("least(0, 2, 1)", () -> x.least(0, 2, 1));
        Due.index("span(0, 0) behind a refused least()", () -> x.span(0, 0));
    }

    private static void noneOfEmpty() {
        YearFractions x = Made.with(1, 5, 0, 6);
        x.least(0, 1, 1);
        x.least(0, 0, 1);
        Due.index("span(0, 0)", () -> x.span(0, 0));
        Due.index("span(0, 1)", () -> x.span(0, 1));
    }

    private static void noSuchEnd() {
        YearFractions x = Made.with(1, 5, 0, 6);
        x.least(0, 1, 1);
        for (int end : Made.outside(0, 1)) {
            Due.index("span(0, " + end + ")", () -> x.span(0, end));
            Due.index("span(1, " + end + ")", () -> x.span(1, end));
            Due.index("span(2, " + end + ")", () -> x.span(2, end));
        }
    }

    private static void changesNothing() {
        Due.changesNothing("span(1, 0)", Due.INDEX, Made::several, x -> x.span(1, 0));
        Due.changesNothing("span(-1, 0)", Due.INDEX, Made::several, x -> x.span(-1, 0));
        Due.changesNothing("span(0, 2)", Due.INDEX, Made::several, x -> x.span(0, 2));
        Due.changesNothing("span(0, -1)", Due.INDEX, Made::several, x -> x.span(0, -1));
    }
}
