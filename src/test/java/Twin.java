import java.util.ArrayList;
import java.util.List;
import java.util.function.IntSupplier;

/** Makes each call on the program and on the model, and tells where they differ in the 512 calls that are promised. */
final class Twin {
    static final int THREW = Integer.MIN_VALUE;
    private static final int CALLS_MOST = 512;

    private final SureFunctions program = new SureFunctions();
    final Model model = new Model();
    private final String name;
    private final Checks checks;
    private final List<String> told = new ArrayList<>();
    private boolean differed;

    Twin(String name, Checks checks) {
        this.name = name;
        this.checks = checks;
    }

    private int both(String what, IntSupplier onProgram, IntSupplier onModel) {
        String want = Checks.told(onModel);
        if (told.size() < CALLS_MOST && !differed) {
            String got = Checks.told(onProgram);
            told.add(what + " = " + got);
            differed = !got.equals(want);
            checks.due(differed ? name + ": " + told : name, got, want);
        }
        return want.startsWith("throws") ? THREW : Integer.parseInt(want);
    }

    private static String text(String call, int... given) {
        StringBuilder text = new StringBuilder(call).append('(');
        for (int i = 0; i < given.length; i++) {
            text.append(i == 0 ? "" : ", ").append(given[i]);
        }
        return text.append(')').toString();
    }

    int constructor(int type, int a, int b, int c) {
        return both(text("constructor", type, a, b, c),
                () -> program.constructor(type, a, b, c), () -> model.constructor(type, a, b, c));
    }

    int function(int type, int a, int b, int c) {
        return both(text("function", type, a, b, c),
                () -> program.function(type, a, b, c), () -> model.function(type, a, b, c));
    }

    int variable(int v) {
        return both(text("variable", v), () -> program.variable(v), () -> model.variable(v));
    }

    int make(int constructor, int x, int y, int z) {
        return both(text("make", constructor, x, y, z),
                () -> program.make(constructor, x, y, z), () -> model.make(constructor, x, y, z));
    }

    int call(int function, int x, int y, int z) {
        return both(text("call", function, x, y, z),
                () -> program.call(function, x, y, z), () -> model.call(function, x, y, z));
    }

    int clause(int function, int p, int q, int r, int body) {
        return both(text("clause", function, p, q, r, body),
                () -> program.clause(function, p, q, r, body), () -> model.clause(function, p, q, r, body));
    }

    int check() {
        return both("check()", program::check, model::check);
    }

    int graphs() {
        return both("graphs()", program::graphs, model::graphs);
    }

    int arc(int clause, int k, int i, int j) {
        return both(text("arc", clause, k, i, j),
                () -> program.arc(clause, k, i, j), () -> model.arc(clause, k, i, j));
    }

    int isValue(int term, int type) {
        return both(text("isValue", term, type),
                () -> program.isValue(term, type) ? 1 : 0, () -> model.isValue(term, type) ? 1 : 0);
    }

    int run(int function, int x, int y, int z) {
        return both(text("run", function, x, y, z),
                () -> program.run(function, x, y, z), () -> model.run(function, x, y, z));
    }

    int answer(int i) {
        return both(text("answer", i), () -> program.answer(i), () -> model.answer(i));
    }

    int count(int what) {
        return both(text("count", what), () -> program.count(what), () -> model.count(what));
    }
}
