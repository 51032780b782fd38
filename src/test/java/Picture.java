/** What calls tell of an object, as text. */
final class Picture {
    private Picture() {
    }

    /** A weight without the zeros ahead of it: 36 calls. */
    static String weight(YearFractions x, int row, int year) {
        StringBuilder digits = new StringBuilder();
        for (int i = 35; i >= 0; i--) {
            digits.append(x.digit(row, year, i));
        }
        return bare(digits);
    }

    /** All weights of a row together: 38 calls. */
    static String total(YearFractions x, int row) {
        StringBuilder digits = new StringBuilder();
        for (int i = 37; i >= 0; i--) {
            digits.append(x.total(row, i));
        }
        return bare(digits);
    }

    private static String bare(StringBuilder digits) {
        return digits.toString().replaceFirst("^0+(?=.)", "");
    }

    /** A row's years and weights, such as "-1..1: 7 0 12". */
    static String row(YearFractions x, int row) {
        int first = x.about(row, 0);
        int last = x.about(row, 1);
        StringBuilder text = new StringBuilder(first + ".." + last + ":");
        for (int year = first; year <= last; year++) {
            text.append(' ').append(weight(x, row, year));
        }
        return text.toString();
    }

    /** The spans of the latest least set, such as "-1..0 2..2"; "" if there are none. */
    static String spans(YearFractions x) {
        StringBuilder text = new StringBuilder();
        for (int k = 0; hasSpan(x, k); k++) {
            text.append(k == 0 ? "" : " ").append(x.span(k, 0)).append("..").append(x.span(k, 1));
        }
        return text.toString();
    }

    private static boolean hasSpan(YearFractions x, int k) {
        try {
            x.span(k, 0);
            return true;
        } catch (IndexOutOfBoundsException e) {
            return false;
        }
    }

    private static boolean hasRow(YearFractions x, int row) {
        try {
            x.about(row, 0);
            return true;
        } catch (IndexOutOfBoundsException e) {
            return false;
        }
    }

    /** All that there is. It uses the object up: a further row is asked for, and all rows go. */
    static String of(YearFractions x) {
        StringBuilder text = new StringBuilder();
        int rows = 0;
        while (hasRow(x, rows)) {
            text.append("row ").append(row(x, rows)).append("; ");
            rows++;
        }
        text.append("rest ").append(x.rest()).append("; spans ").append(spans(x)).append("; ");
        if (rows < 8) {
            int fresh = x.row(3, 1);
            text.append("then row ").append(fresh).append(' ').append(row(x, fresh)).append("; ");
        }
        return text.append("clear ").append(x.clear()).toString();
    }
}
