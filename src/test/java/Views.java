import java.util.ArrayList;
import java.util.List;
import java.util.function.IntSupplier;

/**
 * What an object shows and what it goes on to do, answer by answer. Each view makes at most some 310 calls, so that an
 * object on which 150 were made before is used for fewer than 512.
 */
final class Views {
    static final int MANY = 5;

    private final SureFunctions x;
    private final List<String> seen = new ArrayList<>();

    private Views(SureFunctions x) {
        this.x = x;
    }

    static List<String> of(int view, SureFunctions x) {
        Views views = new Views(x);
        switch (view) {
            case 0:
                views.counts();
                break;
            case 1:
                views.values();
                break;
            case 2:
                views.arcs();
                break;
            case 3:
                views.runs();
                break;
            default:
                views.filling();
                break;
        }
        return views.seen;
    }

    /** Whether the call answered. */
    private boolean tell(IntSupplier call) {
        String told = Checks.told(call);
        seen.add(told);
        return !told.startsWith("throws");
    }

    private void tellUntilRefused(IntSupplier call) {
        boolean answered = true;
        while (answered) {
            answered = tell(call);
        }
    }

    private void counts() {
        for (int n = 0; n <= 5; n++) {
            int what = n;
            tell(() -> x.count(what));
        }
        tell(x::graphs);
        for (int n = 0; n <= 60; n++) {
            int i = n;
            tell(() -> x.answer(i));
        }
    }

    private void values() {
        int many = 3 * x.count(3);
        for (int n = 0; n < many; n++) {
            int at = n;
            tell(() -> x.isValue(at / 3, at % 3) ? 1 : 0);
        }
    }

    private void arcs() {
        int many = 8 * x.count(4);
        for (int n = 0; n < many; n++) {
            int at = n;
            tell(() -> x.arc(at / 8, at / 4 % 2, at / 2 % 2, at % 2));
        }
    }

    private void runs() {
        for (int n = 0; n < 8; n++) {
            int term = n;
            tell(() -> x.run(0, term, term, term));
        }
        tell(x::check);
        tell(x::graphs);
        for (int n = 0; n < 6 * 16; n++) {
            int function = n / 16;
            int term = n % 16;
            tell(() -> x.run(function, term, term, term));
            tell(() -> x.count(0));
            tell(() -> x.answer(0));
        }
    }

    private void filling() {
        tellUntilRefused(() -> x.constructor(0, -1, -1, -1));
        tellUntilRefused(() -> x.function(0, 0, -1, -1));
        for (int f = 0; f < 6; f++) {
            int function = f;
            for (int body = 0; body < 4; body++) {
                int its = body;
                tellUntilRefused(() -> x.clause(function, 0, 1, 2, its));
            }
        }
        tellUntilRefused(() -> x.variable(7));
        tell(x::check);
    }
}
