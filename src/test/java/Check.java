import java.util.function.LongSupplier;

/** Holds answers against those that are due, and counts the wrong ones. */
final class Check {
    private static int wrong = 0;
    private static int made = 0;

    private Check() {}

    static void due(String call, Object got, Object want) {
        made++;
        if (!want.equals(got)) {
            wrong++;
            System.out.println(call + " answered " + got + ", due is " + want);
        }
    }

    static void due(String call, LongSupplier got, long want) {
        due(call, answer(got), Long.toString(want));
    }

    static void thrown(String call, Class<? extends RuntimeException> want, LongSupplier got) {
        due(call, answer(got), want.getSimpleName());
    }

    private static String answer(LongSupplier call) {
        try {
            return Long.toString(call.getAsLong());
        } catch (RuntimeException e) {
            return e.getClass().getSimpleName();
        }
    }

    static void end() {
        System.out.println(wrong == 0 ? made + " answers are as due" : wrong + " of " + made + " answers are not as due");
        if (wrong != 0) {
            System.exit(1);
        }
    }
}
