/** Promises 15 and 16: every day from -4000000 to 4000000, walked one by one from a day that the document names. */
public final class CalendarWalkTest {
    private static final int FARTHEST = 4000000;
    private static final String LUNAR_LEAPS = " 2 5 7 10 13 16 18 21 24 26 29 ";

    // An object is used for at most 512 calls.
    private static YearFractions x = new YearFractions();
    private static int calls = 0;
    private static long asked = 0;
    private static int wrong = 0;

    public static void main(String[] args) {
        int[][] known = {{0, 0, 1, 1, 1}, {1, 0, 1, 1, 3}, {2, 227014, 1, 1, 1}, {3, -272788, 1, 1, 1}};
        for (int[] k : known) {
            walk(k, 1);
            walk(k, -1);
        }
        System.out.println("CalendarWalkTest: " + asked + " answers, " + wrong + " not as due");
        if (wrong != 0) {
            System.exit(1);
        }
    }

    private static void walk(int[] known, int step) {
        int calendar = known[0];
        int year = known[2];
        int month = known[3];
        int d = known[4];
        int length = length(calendar, year, month);
        for (int n = known[1]; n >= -FARTHEST && n <= FARTHEST; n += step) {
            check(calendar, n, year, month, d);
            d += step;
            if (d == 0 || d > length) {
                month += step;
                if (month == 0 || month > months(calendar)) {
                    year += step;
                    month = step == 1 ? 1 : months(calendar);
                }
                length = length(calendar, year, month);
                d = step == 1 ? 1 : length;
            }
        }
    }

    private static void check(int calendar, int n, int year, int month, int d) {
        due("date(", calendar, n, 0, fresh().date(calendar, n, 0), year);
        due("date(", calendar, n, 1, fresh().date(calendar, n, 1), month);
        due("date(", calendar, n, 2, fresh().date(calendar, n, 2), d);
        if (year >= -9999 && year <= 9999) {
            due("day() of (", calendar, n, d, fresh().day(calendar, year, month, d), n);
        }
    }

    private static YearFractions fresh() {
        calls++;
        if (calls > 512) {
            x = new YearFractions();
            calls = 1;
        }
        return x;
    }

    private static void due(String call, int calendar, int n, int more, int got, int want) {
        asked++;
        if (got != want) {
            wrong++;
            if (wrong <= 50) {
                System.out.println(call + calendar + ", " + n + ", " + more + ") answered " + got + ", due is " + want);
            }
        }
    }

    private static int months(int calendar) {
        return calendar == 3 ? 13 : 12;
    }

    private static int length(int calendar, int year, int month) {
        if (calendar == 3) {
            return month == 13 ? 5 : 30;
        }
        if (calendar == 2) {
            boolean leap = LUNAR_LEAPS.contains(" " + Math.floorMod(year, 30) + " ");
            return month % 2 == 1 || month == 12 && leap ? 30 : 29;
        }
        boolean leap = year % 4 == 0 && (calendar == 1 || year % 100 != 0 || year % 400 == 0);
        if (month == 2) {
            return leap ? 29 : 28;
        }
        return month == 4 || month == 6 || month == 9 || month == 11 ? 30 : 31;
    }
}
