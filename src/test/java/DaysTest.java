/** Promises 15 (day) and 16 (date): known days, the edges, and wrong inputs. CalendarWalkTest has all days. */
public final class DaysTest {
    public static void main(String[] args) {
        knownDays();
        noSuchDays();
        endsOfMonths();
        wrongDates();
        Due.end("DaysTest");
    }

    private static void sameDay(int n, int... parts) {
        YearFractions x = new YearFractions();
        String date = parts[0] + ", " + parts[1] + ", " + parts[2] + ", " + parts[3];
        Due.is("day(" + date + ")", n, () -> x.day(parts[0], parts[1], parts[2], parts[3]));
        for (int what = 0; what < 3; what++) {
            int w = what;
            Due.is("date(" + parts[0] + ", " + n + ", " + w + ")", parts[w + 1], () -> x.date(parts[0], n, w));
        }
    }

    private static void knownDays() {
        sameDay(0, 0, 1, 1, 1);
        sameDay(0, 1, 1, 1, 3);
        sameDay(-2, 1, 1, 1, 1);
        sameDay(-1, 0, 0, 12, 31);
        sameDay(227014, 2, 1, 1, 1);
        sameDay(227014, 1, 622, 7, 16);
        sameDay(227014, 0, 622, 7, 19);
        sameDay(227013, 2, 0, 12, 29);
        sameDay(-272788, 3, 1, 1, 1);
        sameDay(-272788, 1, -746, 2, 26);
        sameDay(-272789, 3, 0, 13, 5);
        // the day on which one of the first two calendars was left for the other
        sameDay(577735, 0, 1582, 10, 15);
        sameDay(577735, 1, 1582, 10, 5);
        // 719162 days from there to January 1, 1970
        sameDay(719162, 0, 1970, 1, 1);
        sameDay(730178, 0, 2000, 2, 29);
        sameDay(730178, 1, 2000, 2, 16);
        sameDay(730178, 2, 1420, 11, 24);
        sameDay(730178, 3, 2748, 11, 12);
    }

    private static void isDay(int want, int calendar, int year, int month, int d) {
        YearFractions x = new YearFractions();
        String call = "day(" + calendar + ", " + year + ", " + month + ", " + d + ")";
        if (want == 1) {
            sameDay(x.day(calendar, year, month, d), calendar, year, month, d);
        } else {
            Due.argument(call, () -> x.day(calendar, year, month, d));
        }
    }

    private static void noSuchDays() {
        int[] leap = {1600, 2000, 400, 0, -400, 4, -4, 1904};
        int[] common = {1700, 1900, 100, -100, -300, 200};
        for (int year : leap) {
            isDay(1, 0, year, 2, 29);
            isDay(1, 1, year, 2, 29);
            isDay(0, 0, year, 2, 30);
        }
        for (int year : common) {
            isDay(0, 0, year, 2, 29);
            isDay(1, 1, year, 2, 29);
            isDay(1, 0, year, 2, 28);
        }
        int[] odd = {1, 2, 3, -1, -2, -3, 1901};
        for (int year : odd) {
            isDay(0, 0, year, 2, 29);
            isDay(0, 1, year, 2, 29);
        }
        int[] lunar = {2, 5, 7, 10, 13, 16, 18, 21, 24, 26, 29};
        for (int left = 0; left < 30; left++) {
            int want = 0;
            for (int one : lunar) {
                want = one == left ? 1 : want;
            }
            isDay(want, 2, left, 12, 30);
            isDay(want, 2, left - 30, 12, 30);
            isDay(want, 2, left - 9990, 12, 30);
            isDay(want, 2, left + 9960, 12, 30);
            isDay(1, 2, left, 12, 29);
            isDay(0, 2, left, 2, 30);
            isDay(1, 2, left, 1, 30);
            isDay(0, 2, left, 1, 31);
        }
        for (int calendar = 0; calendar < 4; calendar++) {
            int months = calendar == 3 ? 13 : 12;
            isDay(1, calendar, -9999, 1, 1);
            isDay(1, calendar, 9999, months, 5);
            isDay(0, calendar, -10000, 1, 1);
            isDay(0, calendar, 10000, 1, 1);
            isDay(0, calendar, Integer.MAX_VALUE, 1, 1);
            isDay(0, calendar, Integer.MIN_VALUE, 1, 1);
            isDay(0, calendar, 1, months + 1, 1);
            isDay(0, calendar, 1, 0, 1);
            isDay(0, calendar, 1, -1, 1);
            isDay(0, calendar, 1, Integer.MAX_VALUE, 1);
            isDay(0, calendar, 1, Integer.MIN_VALUE, 1);
            isDay(0, calendar, 1, 1, 0);
            isDay(0, calendar, 1, 1, -1);
            isDay(0, calendar, 1, 1, 32);
            isDay(0, calendar, 1, months, Integer.MAX_VALUE);
            isDay(0, calendar, 1, months, Integer.MIN_VALUE);
        }
        isDay(0, 3, 4, 13, 6);
        isDay(0, 3, 4, 12, 31);
    }

    private static void endsOfMonths() {
        int[][] lengths = {
            {31, 28, 31, 30, 31, 30, 31, 31, 30, 31, 30, 31},
            {31, 28, 31, 30, 31, 30, 31, 31, 30, 31, 30, 31},
            {30, 29, 30, 29, 30, 29, 30, 29, 30, 29, 30, 29},
            {30, 30, 30, 30, 30, 30, 30, 30, 30, 30, 30, 30, 5},
        };
        for (int calendar = 0; calendar < 4; calendar++) {
            for (int month = 1; month <= lengths[calendar].length; month++) {
                int length = lengths[calendar][month - 1];
                isDay(1, calendar, 1, month, 1);
                isDay(1, calendar, 1, month, length);
                isDay(0, calendar, 1, month, length + 1);
                isDay(0, calendar, 1, month, 0);
            }
        }
    }

    private static void wrongDates() {
        YearFractions x = new YearFractions();
        int[] calendars = {-1, 4, Integer.MAX_VALUE, Integer.MIN_VALUE};
        for (int calendar : calendars) {
            Due.index("day() in calendar " + calendar, () -> x.day(calendar, 1, 1, 1));
            Due.index("no day() in calendar " + calendar, () -> x.day(calendar, 10000, 0, 0));
            Due.index("date() in calendar " + calendar, () -> x.date(calendar, 0, 0));
            Due.index("no date() in calendar " + calendar, () -> x.date(calendar, 4000001, 3));
        }
        int[] days = {-4000001, 4000001, Integer.MAX_VALUE, Integer.MIN_VALUE};
        int[] whats = {-1, 3, Integer.MAX_VALUE, Integer.MIN_VALUE};
        for (int i = 0; i < 4; i++) {
            int calendar = i;
            for (int n : days) {
                Due.argument("date(" + i + ", " + n + ", 0)", () -> x.date(calendar, n, 0));
            }
            for (int what : whats) {
                Due.argument("date(" + i + ", 0, " + what + ")", () -> x.date(calendar, 0, what));
            }
        }
        Due.is("date(0, -4000000, 0)", -10951, () -> x.date(0, -4000000, 0));
        Due.is("date(2, -4000000, 2)", 20, () -> x.date(2, -4000000, 2));
    }
}
