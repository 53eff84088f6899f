/** Compares answers with those that are due, and tells each one that is not. */
final class Check {
    private static int done = 0;
    private static int wrong = 0;

    private Check() {
    }

    static void due(String call, long got, long due) {
        done++;
        if (got != due) {
            tell(call + " answered " + got + ", due is " + due);
        }
    }

    /** Floats are compared by their bits, so that 0.0f and -0.0f differ; a NaN is like any other. */
    static void dueFloat(String call, float got, float due) {
        done++;
        if (Float.floatToIntBits(got) != Float.floatToIntBits(due)) {
            tell(call + " answered " + got + ", due is " + due);
        }
    }

    static void tell(String fault) {
        wrong++;
        if (wrong <= 20) {
            System.out.println(fault);
        }
    }

    static void end(String test) {
        System.out.println(test + ": " + done + " answers, " + wrong + " wrong");
        if (wrong != 0 || done == 0) {
            System.exit(1);
        }
    }
}
