import java.util.Random;

/** Promises 1 to 12 and 17: runs of 512 calls by chance, always the same ones, beside the model. */
public final class RandomRunsTest {
    private static final int RUNS = 4000;
    private static final int CALLS = 512;
    private static final int[] ODD = {-1, 0, 1, 2, 3, 7, 8, 36, 38, 48, 49, 9999, 10000, -9999, -10000,
        1000000, 1000001, 1000000000, 1000000001, Integer.MAX_VALUE, Integer.MIN_VALUE};

    private final Random chance;
    private final YearFractions real = new YearFractions();
    private final Model model = new Model();
    private final int middle;

    private RandomRunsTest(int seed) {
        chance = new Random(seed);
        middle = chance.nextInt(4) == 0 ? 9990 : chance.nextInt(4) == 0 ? -9990 : chance.nextInt(60) - 30;
    }

    public static void main(String[] args) {
        for (int seed = 0; seed < RUNS; seed++) {
            RandomRunsTest run = new RandomRunsTest(seed);
            for (int i = 0; i < CALLS; i++) {
                run.call("run " + seed + ", call " + i + ": ");
            }
        }
        Due.end("RandomRunsTest");
    }

    private int odd(int usual) {
        return chance.nextInt(40) == 0 ? ODD[chance.nextInt(ODD.length)] : usual;
    }

    private int someRow() {
        return odd(chance.nextInt(chance.nextInt(4) == 0 ? 8 : 4));
    }

    private int someYear() {
        return odd(middle + chance.nextInt(16) - 8);
    }

    private long someWeight() {
        switch (chance.nextInt(8)) {
            case 0:
                return 0;
            case 1:
                return chance.nextLong();
            case 2:
                return Long.MAX_VALUE;
            case 3:
                return 1000000000000000000L - chance.nextInt(2);
            case 4:
                return 1000000000L - chance.nextInt(2);
            default:
                return chance.nextInt(4);
        }
    }

    private int someUnit() {
        int[] units = {1, 1, 1, 10, 7, 1000000000, 999999999, 1 + chance.nextInt(1000000000)};
        return odd(units[chance.nextInt(units.length)]);
    }

    private void call(String at) {
        switch (chance.nextInt(24)) {
            case 0:
                makeRow(at);
                break;
            case 1: case 2: case 3: case 4: case 5: case 6: {
                int row = someRow();
                int year = someYear();
                long w = someWeight();
                due(at + "weight(" + row + ", " + year + ", " + w + ")", model.weight(row, year, w),
                    () -> real.weight(row, year, w) ? 1 : 0);
                break;
            }
            case 7: case 8:
                callAdd(at);
                break;
            case 9: case 10:
                callTimes(at);
                break;
            case 11:
                due(at + "rest()", model.rest(), real::rest);
                break;
            case 12: case 13: case 14:
                callLeast(at);
                break;
            case 15: case 16:
                callSpan(at);
                break;
            case 23:
                if (chance.nextInt(4) == 0) {
                    due(at + "clear()", model.clear(), real::clear);
                }
                break;
            default:
                ask(at);
        }
    }

    private void makeRow(String at) {
        int first = odd(someYear());
        int many = odd(1 + chance.nextInt(chance.nextInt(3) == 0 ? 48 : 12));
        due(at + "row(" + first + ", " + many + ")", model.row(first, many), () -> real.row(first, many));
    }

    private void callAdd(String at) {
        int a = someRow();
        int b = someRow();
        due(at + "add(" + a + ", " + b + ")", model.add(a, b), () -> real.add(a, b));
    }

    private void callTimes(String at) {
        int a = someRow();
        int b = someRow();
        int unit = someUnit();
        due(at + "times(" + a + ", " + b + ", " + unit + ")", model.times(a, b, unit), () -> real.times(a, b, unit));
    }

    private void callLeast(String at) {
        int row = someRow();
        int below = odd(1 + chance.nextInt(chance.nextInt(3) == 0 ? 1000000 : 12));
        int above = odd(below < 1 ? 0 : chance.nextInt(Math.min(below, 1000000) + 1));
        due(at + "least(" + row + ", " + above + ", " + below + ")", model.least(row, above, below),
            () -> real.least(row, above, below));
    }

    private void callSpan(String at) {
        int k = odd(chance.nextInt(4));
        int end = odd(chance.nextInt(2));
        due(at + "span(" + k + ", " + end + ")", model.span(k, end), () -> real.span(k, end));
    }

    private void ask(String at) {
        int row = someRow();
        int year = someYear();
        int other = someRow();
        int year2 = someYear();
        int i = odd(chance.nextInt(39));
        int what = odd(chance.nextInt(3));
        switch (chance.nextInt(4)) {
            case 0:
                due(at + "digit(" + row + ", " + year + ", " + i + ")", model.digit(row, year, i),
                    () -> real.digit(row, year, i));
                break;
            case 1:
                due(at + "total(" + row + ", " + i + ")", model.total(row, i), () -> real.total(row, i));
                break;
            case 2:
                due(at + "compare(" + row + ", " + year + ", " + other + ", " + year2 + ")",
                    model.compare(row, year, other, year2), () -> real.compare(row, year, other, year2));
                break;
            default:
                due(at + "about(" + row + ", " + what + ")", model.about(row, what), () -> real.about(row, what));
        }
    }

    private static void due(String call, Object want, Due.Call made) {
        if (want instanceof Long) {
            Due.is(call, (Long) want, made);
        } else {
            Due.fails(call, ((Class<?>) want).asSubclass(RuntimeException.class), made);
        }
    }
}
