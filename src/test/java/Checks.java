import java.util.function.IntSupplier;

/** Counts and prints what was not as due; an answer is told as a text, a throw as throws.Name. */
final class Checks {
    private int wrong;

    static String told(IntSupplier call) {
        try {
            return Integer.toString(call.getAsInt());
        } catch (RuntimeException e) {
            return "throws." + e.getClass().getSimpleName();
        }
    }

    void due(String what, String got, String want) {
        if (!got.equals(want)) {
            wrong++;
            System.out.println(what + " answered " + got + ", due is " + want);
        }
    }

    void due(String what, int want, IntSupplier call) {
        due(what, told(call), Integer.toString(want));
    }

    void due(String what, boolean got, boolean want) {
        due(what, Boolean.toString(got), Boolean.toString(want));
    }

    void argument(String what, IntSupplier call) {
        due(what, told(call), "throws.IllegalArgumentException");
    }

    void state(String what, IntSupplier call) {
        due(what, told(call), "throws.IllegalStateException");
    }

    void index(String what, IntSupplier call) {
        due(what, told(call), "throws.IndexOutOfBoundsException");
    }

    void end() {
        if (wrong > 0) {
            System.exit(1);
        }
    }
}
