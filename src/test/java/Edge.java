import java.util.ArrayList;
import java.util.List;
import java.util.function.Supplier;
import java.util.function.ToIntFunction;

/**
 * Objects that are all made the same way, with one call on each: the last that is allowed or the first that is refused.
 * A refused call must throw what is due, and leave its object so that it shows, and goes on to do, the same as one on
 * which the call was never made.
 */
final class Edge {
    private final Checks checks;
    private final Supplier<SureFunctions> making;
    private final List<List<String>> undisturbed = new ArrayList<>();

    Edge(Checks checks, Supplier<SureFunctions> making) {
        this.checks = checks;
        this.making = making;
        for (int view = 0; view < Views.MANY; view++) {
            undisturbed.add(Views.of(view, making.get()));
        }
    }

    void allowed(String what, int want, ToIntFunction<SureFunctions> call) {
        SureFunctions x = making.get();
        checks.due(what, want, () -> call.applyAsInt(x));
    }

    /** Allowed, and with what is due, behind another call. */
    void allowedBehind(String what, int want, ToIntFunction<SureFunctions> before, ToIntFunction<SureFunctions> call) {
        SureFunctions x = making.get();
        before.applyAsInt(x);
        checks.due(what, want, () -> call.applyAsInt(x));
    }

    void argument(String what, ToIntFunction<SureFunctions> call) {
        refused(what, call, "throws.IllegalArgumentException");
    }

    void state(String what, ToIntFunction<SureFunctions> call) {
        refused(what, call, "throws.IllegalStateException");
    }

    void index(String what, ToIntFunction<SureFunctions> call) {
        refused(what, call, "throws.IndexOutOfBoundsException");
    }

    private void refused(String what, ToIntFunction<SureFunctions> call, String want) {
        for (int view = 0; view < Views.MANY; view++) {
            SureFunctions x = making.get();
            checks.due(what, Checks.told(() -> call.applyAsInt(x)), want);
            unchanged(what + ", then view " + view, Views.of(view, x), undisturbed.get(view));
        }
    }

    /** Tells the first difference alone. */
    private void unchanged(String what, List<String> seen, List<String> before) {
        int at = 0;
        while (at < seen.size() && at < before.size() && seen.get(at).equals(before.get(at))) {
            at++;
        }
        checks.due(what + ", answer " + at, at < seen.size() ? seen.get(at) : "no more",
                at < before.size() ? before.get(at) : "no more");
    }
}
