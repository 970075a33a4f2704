import java.util.function.IntSupplier;

/** Counts the answers of one test that are not as due, and ends the test with exit code 1 if there are any. */
final class Check {
    private final String test;
    private int wrong;

    Check(String test) {
        this.test = test;
    }

    void due(String call, int want, IntSupplier got) {
        due(call, Integer.toString(want), answer(got));
    }

    /** The very class is due: what the machine throws itself is a class below some of them. */
    void dueThrow(String call, Class<? extends RuntimeException> want, IntSupplier got) {
        due(call, "throws." + want.getSimpleName(), answer(got));
    }

    void due(String call, String want, String got) {
        if (!want.equals(got)) {
            wrong++;
            System.out.println(test + ": " + call + " answered " + got + ", due is " + want);
        }
    }

    static String answer(IntSupplier call) {
        try {
            return Integer.toString(call.getAsInt());
        } catch (RuntimeException e) {
            return "throws." + e.getClass().getSimpleName();
        }
    }

    void end() {
        System.out.println(wrong == 0 ? "all answers are as due" : wrong + " answers are not as due");
        if (wrong != 0) {
            System.exit(1);
        }
    }
}
