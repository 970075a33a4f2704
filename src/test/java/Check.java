import java.util.function.IntSupplier;
import java.util.function.IntUnaryOperator;

/** Counts the answers of one test that are not as due, and ends the test with exit code 1 if there are any. */
final class Check {
    /** Far away on either side, where a sum or a product would wrap around. */
    private static final int[] FAR = {Integer.MIN_VALUE, Integer.MIN_VALUE + 1, Integer.MAX_VALUE - 1,
        Integer.MAX_VALUE};

    private final String test;
    private String sentence = "";
    private int wrong;

    Check(String test) {
        this.test = test;
    }

    /** The document's sentence that the answers from here on are due by. */
    void says(String words) {
        sentence = " [" + words + "]";
    }

    void due(String call, int want, IntSupplier got) {
        due(call, Integer.toString(want), answer(got));
    }

    /** The very class is due: what the machine throws itself is a class below some of them. */
    void dueThrow(String call, Class<? extends RuntimeException> want, IntSupplier got) {
        due(call, "throws." + want.getSimpleName(), answer(got));
    }

    /** That a number is refused when it is -1 or last + 1, next to what is there, or far away. */
    void dueThrowOutside(String call, int last, Class<? extends RuntimeException> want, IntUnaryOperator got) {
        dueThrow(call + " of -1", want, () -> got.applyAsInt(-1));
        dueThrow(call + " of " + (last + 1), want, () -> got.applyAsInt(last + 1));
        for (int far : FAR) {
            dueThrow(call + " of " + far, want, () -> got.applyAsInt(far));
        }
    }

    void due(String call, String want, String got) {
        if (!want.equals(got)) {
            wrong++;
            System.out.println(test + sentence + ": " + call + " answered " + got + ", due is " + want);
        }
    }

    static String answer(IntSupplier call) {
        try {
            return Integer.toString(call.getAsInt());
        } catch (RuntimeException e) {
            return "throws." + e.getClass().getSimpleName();
        }
    }

    void end() {
        System.out.println(wrong == 0 ? "all answers are as due" : wrong + " answers are not as due");
        if (wrong != 0) {
            System.exit(1);
        }
    }
}
