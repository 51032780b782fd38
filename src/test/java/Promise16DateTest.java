/** Promise 16: date. CalendarWalkTest goes through all days. */
public final class Promise16DateTest {
    private static final int FARTHEST = 4000000;

    public static void main(String[] args) {
        Due.test("promise 16: day 0 is January 1 of the year 1 of calendar 0", Promise16DateTest::dayNull);
        Due.test("promise 16: which is January 3 of the year 1 in calendar 1", Promise16DateTest::dayNullIn1);
        Due.test("promise 16: the first day of year 1 is in calendar 2 July 16 of 622", Promise16DateTest::firstIn2);
        Due.test("promise 16: in calendar 3 February 26 of -746", Promise16DateTest::firstIn3);
        Due.test("promise 16: known days", Promise16DateTest::knownDays);
        Due.test("promise 16: 0 the year (as in sums): there is one 0", Promise16DateTest::yearNull);
        Due.test("promise 16: the last day of a year, and the first one", Promise16DateTest::newYears);
        Due.test("promise 16: the first days of years that begin farthest ahead of their mean place",
            Promise16DateTest::earlyYears);
        Due.test("promise 16: the last day of a cycle of leap years, and the first one", Promise16DateTest::cycles);
        Due.test("promise 16: the last days of years -9999 .. 9999, and those beyond", Promise16DateTest::farYears);
        Due.test("promise 16: n as early as it can be", Promise16DateTest::earliest);
        Due.test("promise 16: n as late as it can be", Promise16DateTest::latest);
        Due.test("promise 16: IndexOutOfBoundsException: calendar", Promise16DateTest::noSuchCalendar);
        Due.test("promise 16: IllegalArgumentException: what is none of these", Promise16DateTest::noSuchWhat);
        Due.test("promise 16: IllegalArgumentException: n not -4000000 ..", Promise16DateTest::tooEarly);
        Due.test("promise 16: IllegalArgumentException: n not .. 4000000", Promise16DateTest::tooLate);
        Due.test("promise 16: IndexOutOfBoundsException comes ahead of IllegalArgumentException",
            Promise16DateTest::order);
        Due.test("promise 16: a call, refused or not, changes nothing", Promise16DateTest::changesNothing);
        Due.end("Promise16DateTest");
    }

    private static void dayNull() {
        Dates.dateIs(0, 0, 1, 1, 1);
        Dates.dateIs(0, 1, 1, 1, 2);
        Dates.dateIs(0, -1, 0, 12, 31);
    }

    private static void dayNullIn1() {
        Dates.dateIs(1, 0, 1, 1, 3);
        Dates.dateIs(1, -2, 1, 1, 1);
        Dates.dateIs(1, -3, 0, 12, 31);
    }

    private static void firstIn2() {
        Dates.dateIs(1, 227014, 622, 7, 16);
        Dates.dateIs(2, 227014, 1, 1, 1);
        Dates.dateIs(2, 227013, 0, 12, 29);
    }

    private static void firstIn3() {
        Dates.dateIs(1, -272788, -746, 2, 26);
        Dates.dateIs(3, -272788, 1, 1, 1);
        Dates.dateIs(3, -272789, 0, 13, 5);
    }

    private static void knownDays() {
        Dates.dateIs(0, 577735, 1582, 10, 15);
        Dates.dateIs(1, 577735, 1582, 10, 5);
        Dates.dateIs(0, 719162, 1970, 1, 1);
        Dates.dateIs(0, 730178, 2000, 2, 29);
        Dates.dateIs(1, 730178, 2000, 2, 16);
        Dates.dateIs(2, 730178, 1420, 11, 24);
        Dates.dateIs(3, 730178, 2748, 11, 12);
        Dates.dateIs(2, 0, -640, 5, 18);
        Dates.dateIs(3, 0, 748, 5, 14);
    }

    private static void yearNull() {
        int[][] lastOfNull = {{0, 12, 31}, {0, 12, 31}, {0, 12, 29}, {0, 13, 5}};
        int[][] lastOfOneAhead = {{-1, 12, 31}, {-1, 12, 31}, {-1, 12, 30}, {-1, 13, 5}};
        int[] newYearOfOne = {0, -2, 227014, -272788};
        int[] daysOfNull = {366, 366, 354, 365};
        for (int calendar = 0; calendar < 4; calendar++) {
            int newYear = newYearOfOne[calendar];
            Dates.dateIs(calendar, newYear - 1, lastOfNull[calendar]);
            Dates.dateIs(calendar, newYear - daysOfNull[calendar], 0, 1, 1);
            Dates.dateIs(calendar, newYear - daysOfNull[calendar] - 1, lastOfOneAhead[calendar]);
        }
    }

    private static void newYears() {
        // The ends of the years 1 .. 4, the last of them a leap year, in the two calendars of twelve like months.
        int[] ends = {364, 729, 1094, 1460};
        for (int year = 1; year <= 4; year++) {
            int end = ends[year - 1];
            Dates.dateIs(0, end, year, 12, 31);
            Dates.dateIs(0, end + 1, year + 1, 1, 1);
            Dates.dateIs(1, end - 2, year, 12, 31);
            Dates.dateIs(1, end - 1, year + 1, 1, 1);
        }
        Dates.dateIs(2, 227014 + 353, 1, 12, 29);
        Dates.dateIs(2, 227014 + 354, 2, 1, 1);
        Dates.dateIs(2, 227014 + 708, 2, 12, 30);
        Dates.dateIs(2, 227014 + 709, 3, 1, 1);
        Dates.dateIs(3, -272788 + 364, 1, 13, 5);
        Dates.dateIs(3, -272788 + 365, 2, 1, 1);
    }

    // In calendar 0 such years lie behind three of 100 without a leap year, in 2 ahead of a leap year.
    private static void earlyYears() {
        int[][] years = {{0, 304, 110667}, {0, 2304, 841152}, {1, 4, 1093}, {2, 2, 227368}, {2, 29, 236936}};
        int[][] lastDays = {{12, 31}, {12, 31}, {12, 31}, {12, 29}, {12, 29}};
        for (int i = 0; i < years.length; i++) {
            int calendar = years[i][0];
            int year = years[i][1];
            int n = years[i][2];
            Dates.dateIs(calendar, n - 1, year - 1, lastDays[i][0], lastDays[i][1]);
            Dates.dateIs(calendar, n, year, 1, 1);
            Dates.dateIs(calendar, n + 1, year, 1, 2);
            Dates.dateIs(calendar, n + 2, year, 1, 3);
        }
    }

    private static void cycles() {
        int[] cycleYears = {400, 4, 30, 1};
        int[] cycleDays = {146097, 1461, 10631, 365};
        int[] newYearOfOne = {0, -2, 227014, -272788};
        int[] lastMonth = {12, 12, 12, 13};
        int[] lastDay = {31, 31, 29, 5};
        for (int calendar = 0; calendar < 4; calendar++) {
            for (int i = -20; i <= 20; i++) {
                int n = newYearOfOne[calendar] + i * cycleDays[calendar];
                int year = 1 + i * cycleYears[calendar];
                Dates.dateIs(calendar, n, year, 1, 1);
                Dates.dateIs(calendar, n - 1, year - 1, lastMonth[calendar], lastDay[calendar]);
            }
        }
    }

    private static void farYears() {
        int[] first = {-3652425, -3652502, -3316653, -3922788};
        int[] last = {3652058, 3652131, 3770325, 3376846};
        int[][] lastOfAll = {{9999, 12, 31}, {9999, 12, 31}, {9999, 12, 29}, {9999, 13, 5}};
        int[][] aheadOfAll = {{-10000, 12, 31}, {-10000, 12, 31}, {-10000, 12, 29}, {-10000, 13, 5}};
        for (int calendar = 0; calendar < 4; calendar++) {
            Dates.dateIs(calendar, first[calendar], -9999, 1, 1);
            Dates.dateIs(calendar, first[calendar] - 1, aheadOfAll[calendar]);
            Dates.dateIs(calendar, last[calendar], lastOfAll[calendar]);
            Dates.dateIs(calendar, last[calendar] + 1, 10000, 1, 1);
        }
    }

    private static void earliest() {
        Dates.dateIs(0, -FARTHEST, -10951, 5, 17);
        Dates.dateIs(1, -FARTHEST, -10951, 8, 9);
        Dates.dateIs(2, -FARTHEST, -11928, 8, 20);
        Dates.dateIs(3, -FARTHEST, -10211, 6, 19);
    }

    private static void latest() {
        Dates.dateIs(0, FARTHEST, 10952, 8, 18);
        Dates.dateIs(1, FARTHEST, 10952, 5, 30);
        Dates.dateIs(2, FARTHEST, 10648, 2, 15);
        Dates.dateIs(3, FARTHEST, 11707, 4, 9);
    }

    private static void noSuchCalendar() {
        YearFractions x = new YearFractions();
        for (int calendar : Made.outside(0, 3)) {
            for (int i = 0; i < 3; i++) {
                int what = i;
                Due.index("date(" + calendar + ", 0, " + what + ")", () -> x.date(calendar, 0, what));
            }
        }
    }

    private static void noSuchWhat() {
        YearFractions x = new YearFractions();
        for (int i = 0; i < 4; i++) {
            int calendar = i;
            for (int what : Made.outside(0, 2)) {
                Due.argument("date(" + calendar + ", 0, " + what + ")", () -> x.date(calendar, 0, what));
            }
        }
    }

    private static void isRefused(int n) {
        YearFractions x = new YearFractions();
        for (int i = 0; i < 12; i++) {
            int calendar = i / 3;
            int what = i % 3;
            Due.argument("date(" + calendar + ", " + n + ", " + what + ")", () -> x.date(calendar, n, what));
        }
    }

    private static void tooEarly() {
        isRefused(-FARTHEST - 1);
        isRefused(Integer.MIN_VALUE);
    }

    private static void tooLate() {
        isRefused(FARTHEST + 1);
        isRefused(Integer.MAX_VALUE);
    }

    private static void order() {
        YearFractions x = new YearFractions();
        for (int calendar : Made.outside(0, 3)) {
            Due.index("date(" + calendar + ", 0, 3)", () -> x.date(calendar, 0, 3));
            Due.index("date(" + calendar + ", 4000001, 0)", () -> x.date(calendar, FARTHEST + 1, 0));
            Due.index("date(" + calendar + ", -4000001, -1)", () -> x.date(calendar, -FARTHEST - 1, -1));
        }
    }

    private static void changesNothing() {
        Due.changesNothing("date(4, 0, 0)", Due.INDEX, Made::several, x -> x.date(4, 0, 0));
        Due.changesNothing("date(0, 0, 3)", Due.ARGUMENT, Made::several, x -> x.date(0, 0, 3));
        Due.changesNothing("date(0, 4000001, 0)", Due.ARGUMENT, Made::several, x -> x.date(0, FARTHEST + 1, 0));
        YearFractions x = Made.several();
        x.date(2, 730178, 2);
        Due.shows("what is there behind date()", Picture.of(Made.several()), () -> Picture.of(x));
    }
}
