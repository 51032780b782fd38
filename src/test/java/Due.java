import java.util.function.Supplier;

/** Counts the calls whose answers are not the ones that are due, and prints them. */
final class Due {
    interface Call {
        long answer();
    }

    interface Use {
        long on(YearFractions x);
    }

    static final Class<IndexOutOfBoundsException> INDEX = IndexOutOfBoundsException.class;
    static final Class<IllegalStateException> STATE = IllegalStateException.class;
    static final Class<IllegalArgumentException> ARGUMENT = IllegalArgumentException.class;
    static final Class<ArithmeticException> ARITHMETIC = ArithmeticException.class;

    private static int asked = 0;
    private static int wrong = 0;

    private Due() {
    }

    /** One test, named by its promise and by the sentence that it would see broken. */
    static void test(String name, Runnable body) {
        int before = wrong;
        try {
            body.run();
        } catch (RuntimeException e) {
            tell(name, e.toString(), "no exception");
        }
        System.out.println((wrong == before ? "  ok: " : "  FAILED: ") + name);
    }

    static void is(String call, long want, Call made) {
        asked++;
        try {
            long got = made.answer();
            if (got != want) {
                tell(call, String.valueOf(got), String.valueOf(want));
            }
        } catch (RuntimeException e) {
            tell(call, e.toString(), String.valueOf(want));
        }
    }

    static void isTrue(String call, boolean got) {
        is(call, 1, () -> got ? 1 : 0);
    }

    /** For what takes many calls to tell: a row's weights, the spans of a least set. */
    static void shows(String what, String want, Supplier<String> made) {
        asked++;
        try {
            String got = made.get();
            if (!got.equals(want)) {
                tell(what, got, want);
            }
        } catch (RuntimeException e) {
            tell(what, e.toString(), want);
        }
    }

    static void index(String call, Call made) {
        fails(call, INDEX, made);
    }

    static void state(String call, Call made) {
        fails(call, STATE, made);
    }

    static void argument(String call, Call made) {
        fails(call, ARGUMENT, made);
    }

    static void arithmetic(String call, Call made) {
        fails(call, ARITHMETIC, made);
    }

    /** The very class is due: one below it, or a division by zero, would be the machine's own. */
    static void fails(String call, Class<? extends RuntimeException> want, Call made) {
        asked++;
        try {
            tell(call, String.valueOf(made.answer()), want.getSimpleName());
        } catch (RuntimeException e) {
            if (e.getClass() != want || "/ by zero".equals(e.getMessage())) {
                tell(call, e.toString(), want.getSimpleName());
            }
        }
    }

    /** A call on an object like the made one is refused, and leaves it like one that had no such call. */
    static void changesNothing(String call, Class<? extends RuntimeException> want, Supplier<YearFractions> made,
            Use use) {
        YearFractions x = made.get();
        fails(call, want, () -> use.on(x));
        shows("what is there behind " + call, Picture.of(made.get()), () -> Picture.of(x));
    }

    static void end(String test) {
        System.out.println(test + ": " + asked + " answers, " + wrong + " not as due");
        if (wrong != 0) {
            System.exit(1);
        }
    }

    private static void tell(String call, String got, String want) {
        wrong++;
        if (wrong <= 50) {
            System.out.println(call + " answered " + got + ", due is " + want);
        }
    }
}
