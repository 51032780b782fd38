/** Promise 15: day. CalendarWalkTest goes through all days. */
public final class Promise15DayTest {
    private static final int[] ROMAN_MONTHS = {31, 28, 31, 30, 31, 30, 31, 31, 30, 31, 30, 31};
    private static final int[] MONTHS = {12, 12, 12, 13};

    public static void main(String[] args) {
        Due.test("promise 15: day 0 is January 1 of the year 1 of calendar 0", Promise15DayTest::dayNull);
        Due.test("promise 15: which is January 3 of the year 1 in calendar 1", Promise15DayTest::dayNullIn1);
        Due.test("promise 15: the first day of year 1 is in calendar 2 July 16 of 622", Promise15DayTest::firstIn2);
        Due.test("promise 15: in calendar 3 February 26 of -746", Promise15DayTest::firstIn3);
        Due.test("promise 15: known days", Promise15DayTest::knownDays);
        Due.test("promise 15: 0: twelve months with 31, 28, 31, .. days", () -> romanMonths(0));
        Due.test("promise 15: 1: twelve months with 31, 28, 31, .. days", () -> romanMonths(1));
        Due.test("promise 15: in 1 each fourth year is one (by the number as in sums)", Promise15DayTest::leapsOf1);
        Due.test("promise 15: in 0 of these not those that are multiples of 100", Promise15DayTest::notLeapsOf0);
        Due.test("promise 15: in 0 of these those that are multiples of 400", Promise15DayTest::leapsOf0);
        Due.test("promise 15: in 0 and 1 no year that is no multiple of 4", Promise15DayTest::commonYears);
        Due.test("promise 15: 2: twelve months, by turns of 30 and 29 days", Promise15DayTest::monthsOf2);
        Due.test("promise 15: 2: the last one of 30 in leap years: 2, 5, 7, .. of 30", Promise15DayTest::leapsOf2);
        Due.test("promise 15: 2: leap years ahead of year 1, and at both ends", Promise15DayTest::farLeapsOf2);
        Due.test("promise 15: 3: twelve months of 30 days and a thirteenth of 5", Promise15DayTest::monthsOf3);
        Due.test("promise 15: years as in sums: 0 is the one ahead of 1", Promise15DayTest::yearNull);
        Due.test("promise 15: IndexOutOfBoundsException: calendar", Promise15DayTest::noSuchCalendar);
        Due.test("promise 15: IllegalArgumentException: the year is not -9999 ..", Promise15DayTest::tooEarly);
        Due.test("promise 15: IllegalArgumentException: the year is not .. 9999", Promise15DayTest::tooLate);
        Due.test("promise 15: IllegalArgumentException: there is no such month", Promise15DayTest::noSuchMonth);
        Due.test("promise 15: IllegalArgumentException: there is no such day", Promise15DayTest::noSuchDay);
        Due.test("promise 15: IndexOutOfBoundsException comes ahead of IllegalArgumentException",
            Promise15DayTest::order);
        Due.test("promise 15: a call, refused or not, changes nothing", Promise15DayTest::changesNothing);
        Due.end("Promise15DayTest");
    }

    private static void dayNull() {
        Dates.numberIs(0, 0, 1, 1, 1);
        Dates.numberIs(1, 0, 1, 1, 2);
        Dates.numberIs(-1, 0, 0, 12, 31);
    }

    private static void dayNullIn1() {
        Dates.numberIs(0, 1, 1, 1, 3);
        Dates.numberIs(-2, 1, 1, 1, 1);
        Dates.numberIs(-3, 1, 0, 12, 31);
    }

    private static void firstIn2() {
        Dates.numberIs(227014, 1, 622, 7, 16);
        Dates.numberIs(227014, 2, 1, 1, 1);
        Dates.numberIs(227013, 2, 0, 12, 29);
    }

    private static void firstIn3() {
        Dates.numberIs(-272788, 1, -746, 2, 26);
        Dates.numberIs(-272788, 3, 1, 1, 1);
        Dates.numberIs(-272789, 3, 0, 13, 5);
    }

    private static void knownDays() {
        // The day on which one of the first two calendars was left for the other.
        Dates.numberIs(577735, 0, 1582, 10, 15);
        Dates.numberIs(577735, 1, 1582, 10, 5);
        Dates.numberIs(719162, 0, 1970, 1, 1);
        Dates.numberIs(730178, 0, 2000, 2, 29);
        Dates.numberIs(730178, 1, 2000, 2, 16);
        Dates.numberIs(730178, 2, 1420, 11, 24);
        Dates.numberIs(730178, 3, 2748, 11, 12);
    }

    private static void romanMonths(int calendar) {
        for (int month = 1; month <= 12; month++) {
            Dates.monthHas(ROMAN_MONTHS[month - 1], calendar, 1, month);
            Dates.monthHas(month == 2 ? 29 : ROMAN_MONTHS[month - 1], calendar, 2000, month);
        }
    }

    private static void leapsOf1() {
        int[] leaps = {4, 8, 100, 200, 400, 1900, 9996, 0, -4, -100, -400, -9996};
        for (int year : leaps) {
            Dates.monthHas(29, 1, year, 2);
            Dates.follows(1, new int[] {year, 2, 28}, new int[] {year, 2, 29});
            Dates.follows(1, new int[] {year, 2, 29}, new int[] {year, 3, 1});
        }
    }

    private static void notLeapsOf0() {
        int[] common = {100, 200, 300, 500, 1700, 1900, 2100, 9900, -100, -200, -300, -500, -9900};
        for (int year : common) {
            Dates.monthHas(28, 0, year, 2);
            Dates.follows(0, new int[] {year, 2, 28}, new int[] {year, 3, 1});
        }
    }

    private static void leapsOf0() {
        int[] leaps = {400, 1600, 2000, 9600, 0, -400, -9600, 4, 1904, 9996, -4, -9996};
        for (int year : leaps) {
            Dates.monthHas(29, 0, year, 2);
            Dates.follows(0, new int[] {year, 2, 28}, new int[] {year, 2, 29});
            Dates.follows(0, new int[] {year, 2, 29}, new int[] {year, 3, 1});
        }
    }

    private static void commonYears() {
        int[] common = {1, 2, 3, 5, 9997, 9998, 9999, -1, -2, -3, -5, -9997, -9998, -9999};
        for (int calendar = 0; calendar < 2; calendar++) {
            for (int year : common) {
                Dates.monthHas(28, calendar, year, 2);
                Dates.follows(calendar, new int[] {year, 2, 28}, new int[] {year, 3, 1});
            }
        }
    }

    private static void monthsOf2() {
        int[] common = {1, 0, -30, 9999};
        for (int year : common) {
            for (int month = 1; month <= 12; month++) {
                Dates.monthHas(month % 2 == 1 ? 30 : 29, 2, year, month);
            }
        }
        for (int month = 1; month <= 11; month++) {
            Dates.monthHas(month % 2 == 1 ? 30 : 29, 2, 2, month);
        }
    }

    private static boolean isLeapOf2(int left) {
        int[] leaps = {2, 5, 7, 10, 13, 16, 18, 21, 24, 26, 29};
        for (int leap : leaps) {
            if (leap == left) {
                return true;
            }
        }
        return false;
    }

    private static void leapsOf2() {
        for (int year = 1; year <= 60; year++) {
            int length = isLeapOf2(year % 30) ? 30 : 29;
            Dates.monthHas(length, 2, year, 12);
            Dates.follows(2, new int[] {year, 12, length}, new int[] {year + 1, 1, 1});
        }
    }

    private static void farLeapsOf2() {
        int[] cycles = {-9990, -60, -30, 9960};
        for (int cycle : cycles) {
            for (int left = 0; left < 30; left++) {
                int length = isLeapOf2(left) ? 30 : 29;
                Dates.monthHas(length, 2, cycle + left, 12);
                Dates.follows(2, new int[] {cycle + left, 12, length}, new int[] {cycle + left + 1, 1, 1});
            }
        }
    }

    private static void monthsOf3() {
        int[] years = {1, 4, 0, -746, 2000, -9999, 9999};
        for (int year : years) {
            for (int month = 1; month <= 12; month++) {
                Dates.monthHas(30, 3, year, month);
            }
            Dates.monthHas(5, 3, year, 13);
        }
    }

    private static void yearNull() {
        int[][] lastOfNull = {{0, 12, 31}, {0, 12, 31}, {0, 12, 29}, {0, 13, 5}};
        int[][] lastOfOneAhead = {{-1, 12, 31}, {-1, 12, 31}, {-1, 12, 30}, {-1, 13, 5}};
        for (int calendar = 0; calendar < 4; calendar++) {
            Dates.follows(calendar, lastOfNull[calendar], new int[] {1, 1, 1});
            Dates.follows(calendar, lastOfOneAhead[calendar], new int[] {0, 1, 1});
        }
    }

    private static void noSuchCalendar() {
        YearFractions x = new YearFractions();
        for (int calendar : Made.outside(0, 3)) {
            Due.index("day(" + calendar + ", 1, 1, 1)", () -> x.day(calendar, 1, 1, 1));
        }
    }

    private static void tooEarly() {
        for (int calendar = 0; calendar < 4; calendar++) {
            Dates.existsNot(calendar, -10000, 1, 1);
            Dates.existsNot(calendar, -10000, MONTHS[calendar], 5);
            Dates.existsNot(calendar, Integer.MIN_VALUE, 1, 1);
        }
        Dates.numberIs(-3652425, 0, -9999, 1, 1);
        Dates.numberIs(-3652502, 1, -9999, 1, 1);
        Dates.numberIs(-3316653, 2, -9999, 1, 1);
        Dates.numberIs(-3922788, 3, -9999, 1, 1);
    }

    private static void tooLate() {
        for (int calendar = 0; calendar < 4; calendar++) {
            Dates.existsNot(calendar, 10000, 1, 1);
            Dates.existsNot(calendar, Integer.MAX_VALUE, 1, 1);
        }
        Dates.numberIs(3652058, 0, 9999, 12, 31);
        Dates.numberIs(3652131, 1, 9999, 12, 31);
        Dates.numberIs(3770325, 2, 9999, 12, 29);
        Dates.numberIs(3376846, 3, 9999, 13, 5);
    }

    private static void noSuchMonth() {
        for (int calendar = 0; calendar < 4; calendar++) {
            for (int month : Made.outside(1, MONTHS[calendar])) {
                Dates.existsNot(calendar, 1, month, 1);
                Dates.existsNot(calendar, 2000, month, 5);
            }
            Dates.exists(calendar, 1, 1, 1);
            Dates.exists(calendar, 1, MONTHS[calendar], 1);
        }
    }

    private static void noSuchDay() {
        for (int calendar = 0; calendar < 4; calendar++) {
            for (int month = 1; month <= MONTHS[calendar]; month++) {
                for (int d : Made.outside(1, 31)) {
                    Dates.existsNot(calendar, 4, month, d);
                }
            }
        }
        Dates.existsNot(0, 4, 2, 30);
        Dates.existsNot(1, 4, 2, 30);
        Dates.existsNot(2, 5, 12, 31);
        Dates.existsNot(3, 4, 13, 6);
    }

    private static void order() {
        YearFractions x = new YearFractions();
        for (int calendar : Made.outside(0, 3)) {
            Due.index("day(" + calendar + ", 10000, 1, 1)", () -> x.day(calendar, 10000, 1, 1));
            Due.index("day(" + calendar + ", 1, 0, 1)", () -> x.day(calendar, 1, 0, 1));
            Due.index("day(" + calendar + ", 1, 1, 0)", () -> x.day(calendar, 1, 1, 0));
        }
    }

    private static void changesNothing() {
        Due.changesNothing("day(4, 1, 1, 1)", Due.INDEX, Made::several, x -> x.day(4, 1, 1, 1));
        Due.changesNothing("day(0, 1, 2, 29)", Due.ARGUMENT, Made::several, x -> x.day(0, 1, 2, 29));
        YearFractions x = Made.several();
        x.day(2, 1420, 11, 24);
        Due.shows("what is there behind day()", Picture.of(Made.several()), () -> Picture.of(x));
    }
}
