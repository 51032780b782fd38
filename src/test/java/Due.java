/** Counts the calls whose answers are not the ones that are due, and prints them. */
final class Due {
    interface Call {
        long answer();
    }

    private static int asked = 0;
    private static int wrong = 0;

    private Due() {
    }

    static void is(String call, long want, Call made) {
        asked++;
        try {
            long got = made.answer();
            if (got != want) {
                tell(call, String.valueOf(got), String.valueOf(want));
            }
        } catch (RuntimeException e) {
            tell(call, e.toString(), String.valueOf(want));
        }
    }

    static void isTrue(String call, boolean got) {
        is(call, 1, () -> got ? 1 : 0);
    }

    static void index(String call, Call made) {
        fails(call, IndexOutOfBoundsException.class, made);
    }

    static void state(String call, Call made) {
        fails(call, IllegalStateException.class, made);
    }

    static void argument(String call, Call made) {
        fails(call, IllegalArgumentException.class, made);
    }

    static void arithmetic(String call, Call made) {
        fails(call, ArithmeticException.class, made);
    }

    /** The very class is due: one below it, or a division by zero, would be the machine's own. */
    static void fails(String call, Class<? extends RuntimeException> want, Call made) {
        asked++;
        try {
            tell(call, String.valueOf(made.answer()), want.getSimpleName());
        } catch (RuntimeException e) {
            if (e.getClass() != want || "/ by zero".equals(e.getMessage())) {
                tell(call, e.toString(), want.getSimpleName());
            }
        }
    }

    static void end(String test) {
        System.out.println(test + ": " + asked + " answers, " + wrong + " not as due");
        if (wrong != 0) {
            System.exit(1);
        }
    }

    private static void tell(String call, String got, String want) {
        wrong++;
        if (wrong <= 50) {
            System.out.println(call + " answered " + got + ", due is " + want);
        }
    }
}
