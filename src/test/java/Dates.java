/** Days of which number and date are known. */
final class Dates {
    private Dates() {
    }

    static void numberIs(int n, int calendar, int year, int month, int d) {
        YearFractions x = new YearFractions();
        Due.is(call(calendar, year, month, d), n, () -> x.day(calendar, year, month, d));
    }

    static void dateIs(int calendar, int n, int... parts) {
        YearFractions x = new YearFractions();
        for (int i = 0; i < 3; i++) {
            int what = i;
            Due.is("date(" + calendar + ", " + n + ", " + what + ")", parts[what], () -> x.date(calendar, n, what));
        }
    }

    /** There is such a day, and its number leads back to it. */
    static void exists(int calendar, int year, int month, int d) {
        YearFractions x = new YearFractions();
        dateIs(calendar, x.day(calendar, year, month, d), year, month, d);
    }

    static void existsNot(int calendar, int year, int month, int d) {
        YearFractions x = new YearFractions();
        Due.argument(call(calendar, year, month, d), () -> x.day(calendar, year, month, d));
    }

    /** The month has just so many days. */
    static void monthHas(int days, int calendar, int year, int month) {
        existsNot(calendar, year, month, 0);
        exists(calendar, year, month, 1);
        exists(calendar, year, month, days);
        existsNot(calendar, year, month, days + 1);
    }

    /** One is the day behind the other: {year, month, day} each. */
    static void follows(int calendar, int[] one, int[] next) {
        YearFractions x = new YearFractions();
        int n = x.day(calendar, one[0], one[1], one[2]);
        Due.is("the day behind " + call(calendar, one[0], one[1], one[2]), n + 1,
            () -> x.day(calendar, next[0], next[1], next[2]));
        dateIs(calendar, n, one);
        dateIs(calendar, n + 1, next);
    }

    private static String call(int calendar, int year, int month, int d) {
        return "day(" + calendar + ", " + year + ", " + month + ", " + d + ")";
    }
}
