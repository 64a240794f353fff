import java.util.function.LongSupplier;

/** Holds answers against those that are due, and counts the wrong ones. */
final class Check {
    private static int wrong = 0;
    private static int made = 0;
    private static int sentences = 0;
    private static String sentence = "";

    private Check() {}

    /** What follows tests this sentence of the document, which is told with each wrong answer. */
    static void sentence(String words) {
        sentences++;
        sentence = "\"" + words + "\": ";
    }

    static void due(String call, Object got, Object want) {
        made++;
        if (!want.equals(got)) {
            wrong++;
            System.out.println(sentence + call + " answered " + got + ", due is " + want);
        }
    }

    static void due(String call, LongSupplier got, long want) {
        due(call, answer(got), Long.toString(want));
    }

    static void thrown(String call, Class<? extends RuntimeException> want, LongSupplier got) {
        due(call, answer(got), want.getSimpleName());
    }

    private static String answer(LongSupplier call) {
        try {
            return Long.toString(call.getAsLong());
        } catch (RuntimeException e) {
            return e.getClass().getSimpleName();
        }
    }

    static void end() {
        String of = sentences == 0 ? "" : " of " + sentences + " sentences";
        System.out.println(wrong == 0
                ? made + " answers" + of + " are as due"
                : wrong + " of " + made + " answers are not as due");
        if (wrong != 0) {
            System.exit(1);
        }
    }
}
