/** Promise 1: a new object. */
public final class Promise01NewObjectTest {
    public static void main(String[] args) {
        Due.test("promise 1: no rows: each call that names row 0 is refused", Promise01NewObjectTest::noRows);
        Due.test("promise 1: no rows: the first one is row 0", Promise01NewObjectTest::firstRow);
        Due.test("promise 1: no rows, rests or least set to clear", Promise01NewObjectTest::nothingToClear);
        Due.test("promise 1: no rows of another object", Promise01NewObjectTest::ofItsOwn);
        Due.test("promise 1: an object is used for 512 calls: the last one answers too",
            Promise01NewObjectTest::lastCall);
        Due.end("Promise01NewObjectTest");
    }

    private static void noRows() {
        YearFractions x = new YearFractions();
        Due.index("weight(0, 1, 1)", () -> x.weight(0, 1, 1) ? 1 : 0);
        Due.index("add(0, 0)", () -> x.add(0, 0));
        Due.index("times(0, 0, 1)", () -> x.times(0, 0, 1));
        Due.index("least(0, 0, 1)", () -> x.least(0, 0, 1));
        Due.index("digit(0, 0, 0)", () -> x.digit(0, 0, 0));
        Due.index("total(0, 0)", () -> x.total(0, 0));
        Due.index("compare(0, 0, 0, 0)", () -> x.compare(0, 0, 0, 0));
        Due.index("about(0, 0)", () -> x.about(0, 0));
    }

    private static void firstRow() {
        YearFractions x = new YearFractions();
        Due.is("row(1, 1)", 0, () -> x.row(1, 1));
        Due.index("about(1, 0)", () -> x.about(1, 0));
    }

    private static void nothingToClear() {
        YearFractions x = new YearFractions();
        Due.is("rest()", 0, x::rest);
        Due.index("span(0, 0)", () -> x.span(0, 0));
        Due.is("clear()", 0, x::clear);
    }

    private static void ofItsOwn() {
        YearFractions x = Made.several();
        YearFractions y = new YearFractions();
        Due.index("about(0, 0) of another object", () -> y.about(0, 0));
        Due.is("rest() of another object", 0, y::rest);
        Due.index("span(0, 0) of another object", () -> y.span(0, 0));
        Due.is("row(5, 2) of another object", 0, () -> y.row(5, 2));
        y.weight(0, 5, 9);
        y.clear();
        Due.shows("the first object", Picture.of(Made.several()), () -> Picture.of(x));
    }

    private static void lastCall() {
        YearFractions x = new YearFractions();
        x.row(-1, 3);
        for (int call = 2; call <= 511; call++) {
            int w = call;
            Due.is("weight() as call " + call, 1, () -> x.weight(0, 0, w) ? 1 : 0);
        }
        Due.is("clear() as call 512", 1, x::clear);
    }
}
