/**
 * Years with exact whole weights: rows of them, summed, multiplied and scaled, the least set of
 * years that has a share of all; and days, counted from one calendar to the others.
 */
public final class YearFractions {
    public static final int NONE = -1;

    private static final int MOST_ROWS = 8;
    private static final int MOST_YEARS = 48;
    private static final int EARLIEST_YEAR = -9999;
    private static final int LATEST_YEAR = 9999;

    private static final int WEIGHT_DIGITS = 36;
    private static final int TOTAL_DIGITS = 38;
    private static final int GREATEST_UNIT = 1000000000;
    private static final int GREATEST_BELOW = 1000000;

    private static final int CALENDARS = 4;
    private static final int FARTHEST_DAY = 4000000;

    private final Row[] rows;
    private int rowCount;
    private long rests;
    private final LeastSet latestSet;

    // Room for sums on the way: made once, so that no call makes an object.
    private final Whole left;
    private final Whole right;
    private final Whole result;

    public YearFractions() {
        rows = new Row[MOST_ROWS];
        for (int i = 0; i < MOST_ROWS; i++) {
            rows[i] = new Row();
        }
        rowCount = 0;
        rests = 0;
        latestSet = new LeastSet();
        left = new Whole();
        right = new Whole();
        result = new Whole();
    }

    public int row(int first, int many) throws IllegalStateException, IllegalArgumentException {
        Row fresh = freeRow();
        if (many < 1 || many > MOST_YEARS) {
            throw new IllegalArgumentException("a row has 1 to 48 years");
        }
        // The latest first year is told by a difference of small numbers: first + many might wrap.
        if (first < EARLIEST_YEAR || first > LATEST_YEAR - (many - 1)) {
            throw new IllegalArgumentException("years are -9999 to 9999");
        }
        fresh.open(first, many);
        return keepFreeRow();
    }

    public boolean weight(int row, int year, long w) throws IndexOutOfBoundsException, IllegalArgumentException {
        Row known = knownRowWith(row, year);
        if (w < 0) {
            throw new IllegalArgumentException("a weight is not below 0");
        }
        known.read(year, left);
        right.become(w);
        known.write(year, right);
        return left.order(right) != 0;
    }

    public int add(int a, int b)
            throws IndexOutOfBoundsException, IllegalStateException, IllegalArgumentException, ArithmeticException {
        Row one = knownRow(a);
        Row two = knownRow(b);
        Row sum = freeRow();
        int first = Math.min(one.first, two.first);
        int last = Math.max(one.last(), two.last());
        if (last - first >= MOST_YEARS) {
            throw new IllegalArgumentException("the sum would have more than 48 years");
        }
        sum.open(first, last - first + 1);
        for (int year = first; year <= last; year++) {
            one.read(year, left);
            two.read(year, right);
            left.increase(right);
            storeWeight(sum, year, left);
        }
        return keepFreeRow();
    }

    public int times(int a, int b, int unit)
            throws IndexOutOfBoundsException, IllegalStateException, IllegalArgumentException, ArithmeticException {
        Row one = knownRow(a);
        Row two = knownRow(b);
        Row product = freeRow();
        if (unit < 1 || unit > GREATEST_UNIT) {
            throw new IllegalArgumentException("the unit is 1 to 1000000000");
        }
        int first = Math.max(one.first, two.first);
        int last = Math.min(one.last(), two.last());
        if (first > last) {
            throw new IllegalArgumentException("the rows have no year together");
        }
        product.open(first, last - first + 1);
        long together = 0;
        for (int year = first; year <= last; year++) {
            one.read(year, left);
            two.read(year, right);
            result.becomeProduct(left, right);
            together += result.divide(unit);
            storeWeight(product, year, result);
        }
        // Only here, when no weight can be too great any more: a call that throws changes nothing.
        rests = together;
        return keepFreeRow();
    }

    public long rest() {
        return rests;
    }

    public int least(int row, int above, int below)
            throws IndexOutOfBoundsException, IllegalArgumentException, ArithmeticException {
        Row known = knownRow(row);
        if (below < 1 || below > GREATEST_BELOW) {
            throw new IllegalArgumentException("below is 1 to 1000000");
        }
        if (above < 0 || above > below) {
            throw new IllegalArgumentException("above is 0 to below");
        }
        gather(known, left, right);
        if (left.isZero()) {
            throw new ArithmeticException("all weights of the row are 0");
        }
        result.becomeScaled(left, above);
        takeUntilEnough(known, below);
        latestSet.findSpans(known);
        return latestSet.spans;
    }

    public int span(int k, int end) throws IndexOutOfBoundsException {
        if (k < 0 || k >= latestSet.spans) {
            throw new IndexOutOfBoundsException("no such span");
        }
        if (end != 0 && end != 1) {
            throw new IndexOutOfBoundsException("a span's end is 0 or 1");
        }
        return end == 0 ? latestSet.firsts[k] : latestSet.lasts[k];
    }

    public int digit(int row, int year, int i) throws IndexOutOfBoundsException {
        Row known = knownRowWith(row, year);
        requireDigit(i, WEIGHT_DIGITS);
        known.read(year, left);
        return left.digitAt(i);
    }

    public int total(int row, int i) throws IndexOutOfBoundsException {
        Row known = knownRow(row);
        requireDigit(i, TOTAL_DIGITS);
        gather(known, left, right);
        return left.digitAt(i);
    }

    public int compare(int row, int year, int other, int year2) throws IndexOutOfBoundsException {
        knownRowWith(row, year).read(year, left);
        knownRowWith(other, year2).read(year2, right);
        return left.order(right);
    }

    public int about(int row, int what) throws IndexOutOfBoundsException, IllegalArgumentException {
        Row known = knownRow(row);
        switch (what) {
            case 0:
                return known.first;
            case 1:
                return known.last();
            case 2:
                return countWeighted(known);
            default:
                throw new IllegalArgumentException("a row is asked for 0, 1 or 2");
        }
    }

    public long over(long a, long b) throws ArithmeticException {
        if (b == 0) {
            throw new ArithmeticException("nothing is divided by 0");
        }
        return a / b;
    }

    public long written(int year) {
        // As a long: the year ahead of the least int is one int further than ints go.
        return year > 0 ? year : year - 1L;
    }

    public int day(int calendar, int year, int month, int d)
            throws IndexOutOfBoundsException, IllegalArgumentException {
        requireCalendar(calendar);
        if (year < EARLIEST_YEAR || year > LATEST_YEAR) {
            throw new IllegalArgumentException("years are -9999 to 9999");
        }
        if (month < 1 || month > Calendars.months(calendar)) {
            throw new IllegalArgumentException("no such month");
        }
        if (d < 1 || d > Calendars.monthDays(calendar, year, month)) {
            throw new IllegalArgumentException("no such day");
        }
        return Calendars.newYear(calendar, year) + Calendars.daysAhead(calendar, year, month) + (d - 1);
    }

    public int date(int calendar, int n, int what) throws IndexOutOfBoundsException, IllegalArgumentException {
        requireCalendar(calendar);
        if (what < 0 || what > 2) {
            throw new IllegalArgumentException("a day is asked for 0, 1 or 2");
        }
        if (n < -FARTHEST_DAY || n > FARTHEST_DAY) {
            throw new IllegalArgumentException("days are -4000000 to 4000000");
        }
        int year = Calendars.yearOf(calendar, n);
        if (what == 0) {
            return year;
        }
        int month = Calendars.monthOf(calendar, year, n);
        if (what == 1) {
            return month;
        }
        return n - Calendars.newYear(calendar, year) - Calendars.daysAhead(calendar, year, month) + 1;
    }

    public int clear() {
        int were = rowCount;
        rowCount = 0;
        rests = 0;
        latestSet.spans = 0;
        return were;
    }

    private Row knownRow(int number) {
        if (number < 0 || number >= rowCount) {
            throw new IndexOutOfBoundsException("no such row");
        }
        return rows[number];
    }

    private Row knownRowWith(int number, int year) {
        Row known = knownRow(number);
        if (!known.has(year)) {
            throw new IndexOutOfBoundsException("the year is not in the row");
        }
        return known;
    }

    // The row behind the last one: no call sees what is written there before keepFreeRow().
    private Row freeRow() {
        if (rowCount >= MOST_ROWS) {
            throw new IllegalStateException("there are eight rows");
        }
        return rows[rowCount];
    }

    private int keepFreeRow() {
        int number = rowCount;
        rowCount++;
        return number;
    }

    private static void requireDigit(int i, int digits) {
        if (i < 0 || i >= digits) {
            throw new IndexOutOfBoundsException("no such digit");
        }
    }

    private static void requireCalendar(int calendar) {
        if (calendar < 0 || calendar >= CALENDARS) {
            throw new IndexOutOfBoundsException("no such calendar");
        }
    }

    private static void storeWeight(Row row, int year, Whole value) {
        if (!value.isWeight()) {
            throw new ArithmeticException("a weight would be too great");
        }
        row.write(year, value);
    }

    private static void gather(Row row, Whole sum, Whole one) {
        sum.become(0);
        for (int year = row.first; year <= row.last(); year++) {
            row.read(year, one);
            sum.increase(one);
        }
    }

    private int countWeighted(Row row) {
        int count = 0;
        for (int year = row.first; year <= row.last(); year++) {
            row.read(year, left);
            if (!left.isZero()) {
                count++;
            }
        }
        return count;
    }

    // In result stands above times all weights: the taken ones times below must come up to it,
    // so that no share is ever rounded.
    private void takeUntilEnough(Row row, int below) {
        latestSet.rank(row);
        right.become(0);
        left.become(0);
        for (int rank = 0; rank < row.many && left.order(result) < 0; rank++) {
            row.read(latestSet.take(row, rank), left);
            right.increase(left);
            left.becomeScaled(right, below);
        }
    }

    /** A whole number from 0 on, below 10 to the 72nd: just room for the product of two weights. */
    private static final class Whole {
        private static final int PARTS = 8;
        private static final int WEIGHT_PARTS = 4;
        private static final int PART_DIGITS = 9;
        private static final long BASE = 1000000000L;

        // Nine decimal digits each, the last ones first: so no digit needs a long division.
        private final long[] parts = new long[PARTS];

        void become(long value) {
            long left = value;
            for (int i = 0; i < PARTS; i++) {
                parts[i] = left % BASE;
                left /= BASE;
            }
        }

        void increase(Whole other) {
            long carry = 0;
            for (int i = 0; i < PARTS; i++) {
                long sum = parts[i] + other.parts[i] + carry;
                parts[i] = sum % BASE;
                carry = sum / BASE;
            }
        }

        void becomeScaled(Whole other, long factor) {
            long carry = 0;
            for (int i = 0; i < PARTS; i++) {
                long product = other.parts[i] * factor + carry;
                parts[i] = product % BASE;
                carry = product / BASE;
            }
        }

        // Of two weights, neither of them this number itself.
        void becomeProduct(Whole one, Whole two) {
            become(0);
            for (int i = 0; i < WEIGHT_PARTS; i++) {
                long carry = 0;
                for (int j = 0; j < WEIGHT_PARTS; j++) {
                    long product = one.parts[i] * two.parts[j] + parts[i + j] + carry;
                    parts[i + j] = product % BASE;
                    carry = product / BASE;
                }
                parts[i + WEIGHT_PARTS] = carry;
            }
        }

        /** Divides by 1 .. 1000000000; answers what is left over. */
        long divide(int divisor) {
            long over = 0;
            for (int i = PARTS - 1; i >= 0; i--) {
                long rising = over * BASE + parts[i];
                parts[i] = rising / divisor;
                over = rising % divisor;
            }
            return over;
        }

        int order(Whole other) {
            for (int i = PARTS - 1; i >= 0; i--) {
                if (parts[i] != other.parts[i]) {
                    return parts[i] < other.parts[i] ? -1 : 1;
                }
            }
            return 0;
        }

        boolean isZero() {
            for (int i = 0; i < PARTS; i++) {
                if (parts[i] != 0) {
                    return false;
                }
            }
            return true;
        }

        boolean isWeight() {
            for (int i = WEIGHT_PARTS; i < PARTS; i++) {
                if (parts[i] != 0) {
                    return false;
                }
            }
            return true;
        }

        /** Digit 0 .. 71, 0 the last one. */
        int digitAt(int place) {
            long part = parts[place / PART_DIGITS];
            for (int i = place % PART_DIGITS; i > 0; i--) {
                part /= 10;
            }
            return (int) (part % 10);
        }
    }

    /** Years one behind the other, with the parts of all their weights in one array. */
    private static final class Row {
        private int first;
        private int many;
        private final long[] parts = new long[MOST_YEARS * Whole.WEIGHT_PARTS];

        void open(int firstYear, int howMany) {
            first = firstYear;
            many = howMany;
            for (int i = 0; i < parts.length; i++) {
                parts[i] = 0;
            }
        }

        int last() {
            return first + many - 1;
        }

        boolean has(int year) {
            return year >= first && year <= last();
        }

        /** A year that is not in the row counts with a weight of 0. */
        void read(int year, Whole into) {
            into.become(0);
            if (has(year)) {
                int at = (year - first) * Whole.WEIGHT_PARTS;
                for (int i = 0; i < Whole.WEIGHT_PARTS; i++) {
                    into.parts[i] = parts[at + i];
                }
            }
        }

        void write(int year, Whole from) {
            if (has(year)) {
                int at = (year - first) * Whole.WEIGHT_PARTS;
                for (int i = 0; i < Whole.WEIGHT_PARTS; i++) {
                    parts[at + i] = from.parts[i];
                }
            }
        }

        /** Of two places in the row, 0 the first year's. */
        boolean isLess(int place, int than) {
            for (int i = Whole.WEIGHT_PARTS - 1; i >= 0; i--) {
                long one = parts[place * Whole.WEIGHT_PARTS + i];
                long two = parts[than * Whole.WEIGHT_PARTS + i];
                if (one != two) {
                    return one < two;
                }
            }
            return false;
        }
    }

    /** The least set of a row as it was when it was asked for: later weights do not change it. */
    private static final class LeastSet {
        private final int[] ranked = new int[MOST_YEARS];
        private final boolean[] taken = new boolean[MOST_YEARS];
        private int spans;
        // Between two spans a year is missing, so at most every other year begins one.
        private final int[] firsts = new int[MOST_YEARS / 2];
        private final int[] lasts = new int[MOST_YEARS / 2];

        /** Takes no year yet, and ranks the places of all by weight, of equal ones the earlier first. */
        void rank(Row row) {
            for (int place = 0; place < row.many; place++) {
                taken[place] = false;
                int at = place;
                while (at > 0 && row.isLess(ranked[at - 1], place)) {
                    ranked[at] = ranked[at - 1];
                    at--;
                }
                ranked[at] = place;
            }
        }

        /** Answers the year that it takes. */
        int take(Row row, int rank) {
            int place = ranked[rank];
            taken[place] = true;
            return row.first + place;
        }

        void findSpans(Row row) {
            spans = 0;
            boolean inside = false;
            for (int place = 0; place < row.many; place++) {
                if (taken[place]) {
                    if (!inside) {
                        firsts[spans] = row.first + place;
                        spans++;
                    }
                    lasts[spans - 1] = row.first + place;
                }
                inside = taken[place];
            }
        }
    }

    /** The four calendars, by their numbers. */
    private static final class Calendars {
        private static final int GREGORIAN = 0;
        private static final int JULIAN = 1;
        private static final int LUNAR = 2;
        private static final int EGYPTIAN = 3;

        private static final int[] MONTH_DAYS = {31, 28, 31, 30, 31, 30, 31, 31, 30, 31, 30, 31};
        private static final int[] LUNAR_LEAPS = {2, 5, 7, 10, 13, 16, 18, 21, 24, 26, 29};

        // By calendar: the number of the first day of year 1, and after how many years, of how
        // many days together, the leap years come again. The first days of 2 and 3 are July 16
        // of 622 and February 26 of -746 of calendar 1.
        private static final int[] FIRST_DAY = {0, -2, 227014, -272788};
        private static final int[] CYCLE_YEARS = {400, 4, 30, 1};
        private static final int[] CYCLE_DAYS = {146097, 1461, 10631, 365};

        static int months(int calendar) {
            return calendar == EGYPTIAN ? 13 : 12;
        }

        static boolean isLeap(int calendar, int year) {
            switch (calendar) {
                case GREGORIAN:
                    return Math.floorMod(year, 4) == 0
                            && (Math.floorMod(year, 100) != 0 || Math.floorMod(year, 400) == 0);
                case JULIAN:
                    return Math.floorMod(year, 4) == 0;
                case LUNAR:
                    return isLunarLeap(Math.floorMod(year, 30));
                default:
                    return false;
            }
        }

        private static boolean isLunarLeap(int leftOf30) {
            for (int leap : LUNAR_LEAPS) {
                if (leap == leftOf30) {
                    return true;
                }
            }
            return false;
        }

        /** How many of the years 1 .. last of a cycle of 30 are leap years. */
        private static int lunarLeapsTo(int last) {
            int count = 0;
            for (int leap : LUNAR_LEAPS) {
                if (leap <= last) {
                    count++;
                }
            }
            return count;
        }

        /** Of a month that the calendar has. */
        static int monthDays(int calendar, int year, int month) {
            switch (calendar) {
                case LUNAR:
                    return month % 2 == 1 || month == 12 && isLeap(calendar, year) ? 30 : 29;
                case EGYPTIAN:
                    return month == 13 ? 5 : 30;
                default:
                    return month == 2 && isLeap(calendar, year) ? 29 : MONTH_DAYS[month - 1];
            }
        }

        /** How many days of the year are ahead of a month. */
        static int daysAhead(int calendar, int year, int month) {
            int days = 0;
            for (int earlier = 1; earlier < month; earlier++) {
                days += monthDays(calendar, year, earlier);
            }
            return days;
        }

        /** The number of a year's first day. */
        static int newYear(int calendar, int year) {
            int years = year - 1;
            int first = FIRST_DAY[calendar];
            switch (calendar) {
                case GREGORIAN:
                    return first + 365 * years + Math.floorDiv(years, 4)
                            - Math.floorDiv(years, 100) + Math.floorDiv(years, 400);
                case JULIAN:
                    return first + 365 * years + Math.floorDiv(years, 4);
                case LUNAR:
                    return first + 354 * years + LUNAR_LEAPS.length * Math.floorDiv(years, 30)
                            + lunarLeapsTo(Math.floorMod(years, 30));
                default:
                    return first + 365 * years;
            }
        }

        static int yearOf(int calendar, int n) {
            long days = n - FIRST_DAY[calendar];
            int mean = (int) Math.floorDiv(days * CYCLE_YEARS[calendar], (long) CYCLE_DAYS[calendar]) + 1;
            // Leap years lie unevenly in their cycle: a year begins less than a day behind its mean
            // place, but up to two days ahead of it.
            return newYear(calendar, mean + 1) <= n ? mean + 1 : mean;
        }

        static int monthOf(int calendar, int year, int n) {
            int left = n - newYear(calendar, year);
            int month = 1;
            while (month < months(calendar) && left >= monthDays(calendar, year, month)) {
                left -= monthDays(calendar, year, month);
                month++;
            }
            return month;
        }
    }
}
