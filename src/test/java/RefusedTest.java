import java.util.function.Supplier;
import java.util.function.ToIntFunction;

/**
 * "A call that throws changes nothing": each kind of refused call, in each state that an object may be in. And "A
 * constructor, function or clause more makes the program unchecked (terms don't)."
 */
public final class RefusedTest {
    private static final Checks checks = new Checks();

    public static void main(String[] args) {
        refusedIn("nothing declared", SureFunctions::new);
        refusedIn("never checked", RefusedTest::doubling);
        refusedIn("checked", () -> checked(doubling()));
        refusedIn("an answer", RefusedTest::answered);
        refusedIn("ended without an answer", RefusedTest::ended);
        refusedIn("unchecked again", () -> {
            SureFunctions x = answered();
            x.constructor(0, -1, -1, -1);
            return x;
        });
        refusedIn("checked and wrong", () -> {
            SureFunctions x = answered();
            x.clause(1, 2, 0, 0, x.call(1, 2, 0, 0));
            return checked(x);
        });
        refusedWhenFull();
        manyRefusedInARow();
        unchecked();
        checks.end();
    }

    /** Doubling by clauses, and a function that makes too much. Terms: 0 .. 2 variables, 3 zero, 4 one, 5 two. */
    private static SureFunctions doubling() {
        SureFunctions x = Programs.numbers();
        x.constructor(1, 0, 0, 0);
        x.function(0, 0, -1, -1);
        x.function(0, 0, -1, -1);
        x.variable(0);
        x.variable(1);
        x.variable(2);
        int zero = x.make(0, 0, 0, 0);
        Programs.wrapped(x, zero, 2);
        int next = x.make(1, 0, 0, 0);
        x.clause(0, zero, 0, 0, zero);
        x.clause(0, next, 0, 0, Programs.wrapped(x, x.call(0, 0, 0, 0), 2));
        int often = 0;
        for (int i = 0; i < 6; i++) {
            often = x.call(0, often, 0, 0);
        }
        x.clause(1, 0, 0, 0, often);
        return x;
    }

    private static SureFunctions checked(SureFunctions x) {
        x.check();
        return x;
    }

    private static SureFunctions answered() {
        SureFunctions x = checked(doubling());
        x.run(0, 5, 0, 0);
        return x;
    }

    private static SureFunctions ended() {
        SureFunctions x = answered();
        x.run(1, 5, 0, 0);
        return x;
    }

    private static void refusedIn(String state, Supplier<SureFunctions> making) {
        Edge edge = new Edge(checks, making);
        String[] names = {"constructor", "constructor's part", "function", "function's argument", "variable", "make",
            "make's part", "call", "call's argument", "clause's function", "clause's pattern", "clause's body",
            "arc's clause", "arc's call"};
        for (int n = 0; n < names.length; n++) {
            edge.argument(state + ": " + names[n], wrong(n));
        }
        boolean runs = making.get().count(5) == 1;
        ToIntFunction<SureFunctions> noFunction = x -> x.run(9, 3, 3, 3);
        ToIntFunction<SureFunctions> noValue = x -> x.run(0, 0, 0, 0);
        if (runs) {
            edge.argument(state + ": run's function", noFunction);
            edge.argument(state + ": run's argument", noValue);
        } else {
            edge.state(state + ": run's function", noFunction);
            edge.state(state + ": run's argument", noValue);
        }
        edge.index(state + ": answer -1", x -> x.answer(-1));
        edge.index(state + ": answer 60", x -> x.answer(60));
    }

    private static ToIntFunction<SureFunctions> wrong(int kind) {
        switch (kind) {
            case 0:
                return x -> x.constructor(3, -1, -1, -1);
            case 1:
                return x -> x.constructor(0, 0, 0, 3);
            case 2:
                return x -> x.function(-1, 0, 0, 0);
            case 3:
                return x -> x.function(0, 0, -2, 0);
            case 4:
                return x -> x.variable(8);
            case 5:
                return x -> x.make(8, 3, 3, 3);
            case 6:
                return x -> x.make(2, 3, 3, 100);
            case 7:
                return x -> x.call(6, 3, 3, 3);
            case 8:
                return x -> x.call(0, -1, 3, 3);
            case 9:
                return x -> x.clause(6, 0, 1, 2, 3);
            case 10:
                return x -> x.clause(1, 100, 0, 0, 3);
            case 11:
                return x -> x.clause(1, 0, 0, 0, 1);
            case 12:
                return x -> x.arc(24, 0, 0, 0);
            default:
                return x -> x.arc(0, 40, 0, 0);
        }
    }

    /** Eight constructors, six functions, a hundred terms, 24 clauses, checked and run. */
    private static SureFunctions full() {
        SureFunctions x = doubling();
        for (int c = 3; c < 8; c++) {
            x.constructor(1, -1, -1, -1);
        }
        for (int f = 2; f < 6; f++) {
            x.function(0, 0, -1, -1);
        }
        for (int clause = 3; clause < 24; clause++) {
            x.clause(clause % 6, 0, 0, 0, clause % 2 == 0 ? 0 : 3);
        }
        for (int term = 16; term < 100; term++) {
            x.variable(7);
        }
        x.check();
        x.run(0, 5, 0, 0);
        return x;
    }

    private static void refusedWhenFull() {
        Edge edge = new Edge(checks, RefusedTest::full);
        edge.state("full: a ninth constructor", x -> x.constructor(0, -1, -1, -1));
        edge.state("full: a seventh function", x -> x.function(0, 0, -1, -1));
        edge.state("full: a variable", x -> x.variable(0));
        edge.state("full: a constructor's term", x -> x.make(0, 0, 0, 0));
        edge.state("full: a call", x -> x.call(0, 0, 0, 0));
        edge.state("full: a clause", x -> x.clause(5, 0, 0, 0, 0));
        edge.allowed("full: still checked", 1, x -> x.count(5));
        edge.allowed("full: still run", 5, x -> x.run(0, 5, 0, 0));
    }

    /** All refused calls on one object, one behind the other, and then its program is what it was. */
    private static void manyRefusedInARow() {
        SureFunctions x = answered();
        int terms = x.count(3);
        for (int n = 0; n < 14; n++) {
            int kind = n;
            checks.argument("in a row: " + n, () -> wrong(kind).applyAsInt(x));
        }
        checks.due("in a row: still checked", 1, () -> x.count(5));
        checks.due("in a row: terms", terms, () -> x.count(3));
        checks.due("in a row: the answer", 1, () -> x.answer(3));
        checks.due("in a row: it runs", 3, () -> x.run(0, 4, 0, 0));
        checks.due("in a row: the next constructor", 3, () -> x.constructor(0, -1, -1, -1));
        checks.due("in a row: the next function", 2, () -> x.function(0, 0, -1, -1));
        checks.due("in a row: the next term", terms, () -> x.variable(0));
        checks.due("in a row: the next clause", 4, () -> x.clause(1, 0, 0, 0, 0));
    }

    private static void unchecked() {
        Edge edge = new Edge(checks, RefusedTest::answered);
        edge.allowed("checked", 1, x -> x.count(5));
        edge.allowedBehind("a constructor more", 0, x -> x.constructor(2, -1, -1, -1), x -> x.count(5));
        edge.allowedBehind("a function more", 0, x -> x.function(0, -1, -1, -1), x -> x.count(5));
        edge.allowedBehind("a clause more", 0, x -> x.clause(1, 0, 0, 0, 0), x -> x.count(5));
        edge.allowedBehind("a variable more", 1, x -> x.variable(0), x -> x.count(5));
        edge.allowedBehind("a constructor's term more", 1, x -> x.make(1, 5, 0, 0), x -> x.count(5));
        edge.allowedBehind("a call more", 1, x -> x.call(1, 5, 0, 0), x -> x.count(5));
        edge.allowed("a term more, which is run at once", 7, x -> x.run(0, x.make(1, 5, 0, 0), 0, 0));
    }
}
