import java.math.BigInteger;
import java.util.ArrayList;
import java.util.List;
import java.util.TreeMap;
import java.util.TreeSet;

/** The rows of the document, promises 2 to 12 and 17, in the plainest form; an exception is told by its class. */
final class Model {
    private static final BigInteger BOUND = BigInteger.TEN.pow(36);

    private final List<TreeMap<Integer, BigInteger>> rows = new ArrayList<>();
    private final List<int[]> spans = new ArrayList<>();
    private long rests = 0;

    private boolean has(int row) {
        return row >= 0 && row < rows.size();
    }

    private boolean has(int row, int year) {
        return has(row) && rows.get(row).containsKey(year);
    }

    private static Object state() {
        return IllegalStateException.class;
    }

    private static Object index() {
        return IndexOutOfBoundsException.class;
    }

    private static Object argument() {
        return IllegalArgumentException.class;
    }

    private static Object arithmetic() {
        return ArithmeticException.class;
    }

    private Object keep(TreeMap<Integer, BigInteger> row) {
        for (BigInteger weight : row.values()) {
            if (weight.compareTo(BOUND) >= 0) {
                return arithmetic();
            }
        }
        rows.add(row);
        return rows.size() - 1L;
    }

    Object row(int first, int many) {
        if (rows.size() == 8) {
            return state();
        }
        long last = (long) first + many - 1;
        if (many < 1 || many > 48 || first < -9999 || last > 9999) {
            return argument();
        }
        TreeMap<Integer, BigInteger> made = new TreeMap<>();
        for (int i = 0; i < many; i++) {
            made.put(first + i, BigInteger.ZERO);
        }
        return keep(made);
    }

    Object weight(int row, int year, long w) {
        if (!has(row, year)) {
            return index();
        }
        if (w < 0) {
            return argument();
        }
        return rows.get(row).put(year, BigInteger.valueOf(w)).equals(BigInteger.valueOf(w)) ? 0L : 1L;
    }

    Object add(int a, int b) {
        if (!has(a) || !has(b)) {
            return index();
        }
        if (rows.size() == 8) {
            return state();
        }
        TreeMap<Integer, BigInteger> sum = new TreeMap<>(rows.get(a));
        for (int year : rows.get(b).keySet()) {
            sum.merge(year, rows.get(b).get(year), BigInteger::add);
        }
        if (sum.lastKey() - sum.firstKey() + 1 > 48) {
            return argument();
        }
        for (int year = sum.firstKey(); year < sum.lastKey(); year++) {
            sum.putIfAbsent(year, BigInteger.ZERO);
        }
        return keep(sum);
    }

    Object times(int a, int b, int unit) {
        if (!has(a) || !has(b)) {
            return index();
        }
        if (rows.size() == 8) {
            return state();
        }
        TreeMap<Integer, BigInteger> product = new TreeMap<>(rows.get(a));
        product.keySet().retainAll(rows.get(b).keySet());
        if (unit < 1 || unit > 1000000000 || product.isEmpty()) {
            return argument();
        }
        long together = 0;
        for (int year : product.keySet()) {
            BigInteger[] parts = rows.get(a).get(year).multiply(rows.get(b).get(year))
                .divideAndRemainder(BigInteger.valueOf(unit));
            product.put(year, parts[0]);
            together += parts[1].longValue();
        }
        Object answer = keep(product);
        if (answer instanceof Long) {
            rests = together;
        }
        return answer;
    }

    Object rest() {
        return rests;
    }

    private static BigInteger sum(TreeMap<Integer, BigInteger> row) {
        BigInteger sum = BigInteger.ZERO;
        for (BigInteger weight : row.values()) {
            sum = sum.add(weight);
        }
        return sum;
    }

    Object least(int row, int above, int below) {
        if (!has(row)) {
            return index();
        }
        if (below < 1 || below > 1000000 || above < 0 || above > below) {
            return argument();
        }
        TreeMap<Integer, BigInteger> from = rows.get(row);
        if (sum(from).signum() == 0) {
            return arithmetic();
        }
        List<Integer> years = new ArrayList<>(from.keySet());
        years.sort((a, b) -> {
            int order = from.get(b).compareTo(from.get(a));
            return order != 0 ? order : Integer.compare(a, b);
        });
        BigInteger goal = sum(from).multiply(BigInteger.valueOf(above));
        BigInteger taken = BigInteger.ZERO;
        TreeSet<Integer> set = new TreeSet<>();
        while (taken.multiply(BigInteger.valueOf(below)).compareTo(goal) < 0) {
            int next = years.get(set.size());
            set.add(next);
            taken = taken.add(from.get(next));
        }
        spans.clear();
        for (int year : set) {
            if (!set.contains(year - 1)) {
                spans.add(new int[] {year, year});
            }
            spans.get(spans.size() - 1)[1] = year;
        }
        return (long) spans.size();
    }

    Object span(int k, int end) {
        if (k < 0 || k >= spans.size() || end < 0 || end > 1) {
            return index();
        }
        return (long) spans.get(k)[end];
    }

    private static Object digitOf(BigInteger number, int i) {
        return number.divide(BigInteger.TEN.pow(i)).mod(BigInteger.TEN).longValue();
    }

    Object digit(int row, int year, int i) {
        if (!has(row, year) || i < 0 || i > 35) {
            return index();
        }
        return digitOf(rows.get(row).get(year), i);
    }

    Object total(int row, int i) {
        if (!has(row) || i < 0 || i > 37) {
            return index();
        }
        return digitOf(sum(rows.get(row)), i);
    }

    Object compare(int row, int year, int other, int year2) {
        if (!has(row, year) || !has(other, year2)) {
            return index();
        }
        return (long) rows.get(row).get(year).compareTo(rows.get(other).get(year2));
    }

    Object about(int row, int what) {
        if (!has(row)) {
            return index();
        }
        if (what < 0 || what > 2) {
            return argument();
        }
        if (what < 2) {
            return (long) (what == 0 ? rows.get(row).firstKey() : rows.get(row).lastKey());
        }
        return rows.get(row).values().stream().filter(w -> w.signum() != 0).count();
    }

    Object clear() {
        long were = rows.size();
        rows.clear();
        spans.clear();
        rests = 0;
        return were;
    }
}
