import java.util.function.ToIntFunction;

/** Promises 13 and 14: the answer of the latest run, and what is counted. */
public final class AnswerTest {
    private static final Checks checks = new Checks();

    public static void main(String[] args) {
        constructorFirst();
        noSuchOne();
        noAnswer();
        noAnswerWhenEnded();
        latestThatDidNotThrow();
        whateverIsDeclaredBehind();
        stepsOfTheLatest();
        stepsWhenEnded();
        countsOfAll();
        fullCounts();
        checkedAndAllSo();
        anyOtherNumber();
        checks.end();
    }

    /** Function 0 answers its argument in a box; terms: 0 a variable, 1 zero, 2 one, 3 two, 4 in a box. */
    private static SureFunctions boxing() {
        SureFunctions x = Programs.numbers();
        x.constructor(1, 0, -1, -1);
        x.function(1, 0, -1, -1);
        x.variable(0);
        x.make(0, 0, 0, 0);
        Programs.wrapped(x, 1, 2);
        x.make(2, 0, 0, 0);
        x.clause(0, 0, 0, 0, 4);
        x.check();
        return x;
    }

    private static SureFunctions ran() {
        SureFunctions x = boxing();
        x.run(0, 3, 0, 0);
        return x;
    }

    private static String answerOf(SureFunctions x, int size) {
        StringBuilder text = new StringBuilder();
        for (int i = 0; i < size; i++) {
            text.append(x.answer(i));
        }
        return text.toString();
    }

    /** "written with the constructor first and then its parts, from the first on", whoever made them. */
    private static void constructorFirst() {
        SureFunctions x = new SureFunctions();
        x.constructor(0, -1, -1, -1);
        x.constructor(0, -1, -1, -1);
        x.constructor(0, 0, 0, 0);
        x.constructor(0, 0, -1, -1);
        x.constructor(0, 0, 0, -1);
        x.function(0, 0, 0, -1);
        x.function(0, 0, -1, -1);
        int v = x.variable(0);
        int w = x.variable(1);
        int a = x.make(0, 0, 0, 0);
        int b = x.make(1, 0, 0, 0);
        int boxed = x.call(1, w, 0, 0);
        x.clause(0, v, w, 0, x.make(2, v, x.make(2, boxed, v, b), x.make(4, w, a, 0)));
        x.clause(1, v, 0, 0, x.make(3, v, 0, 0));
        x.check();
        int given = x.make(2, a, b, b);
        String due = "2" + "2011" + "2" + "330" + "2011" + "1" + "4" + "30" + "0";
        checks.due("promise 12: parts of parts", due.length(), () -> x.run(0, given, x.make(3, a, 0, 0), 0));
        checks.due("promise 13: parts of parts", answerOf(x, due.length()), due);
    }

    /** "Constructor number i (from 0)"; "IndexOutOfBoundsException when there is none such" */
    private static void noSuchOne() {
        Edge edge = new Edge(checks, AnswerTest::ran);
        edge.allowed("promise 13: the first", 2, x -> x.answer(0));
        edge.allowed("promise 13: the second", 1, x -> x.answer(1));
        edge.allowed("promise 13: the last", 0, x -> x.answer(3));
        for (int i : new int[] {-1, 4, 60, 61, Programs.FAR[0], Programs.FAR[1]}) {
            edge.index("promise 13: number " + i, x -> x.answer(i));
        }
        SureFunctions x = ran();
        x.run(0, 1, 0, 0);
        checks.due("promise 13: the last of a shorter one", 0, () -> x.answer(1));
        checks.index("promise 13: what a longer one had", () -> x.answer(2));
    }

    /** "or no answer": nothing was run. */
    private static void noAnswer() {
        Edge edge = new Edge(checks, AnswerTest::boxing);
        for (int i : new int[] {-1, 0, 1, Programs.FAR[0], Programs.FAR[1]}) {
            edge.index("promise 13: number " + i + " of no run", x -> x.answer(i));
        }
    }

    /** Function 0 answers its argument, function 1 makes too much of one that has forty constructors (term 4). */
    private static SureFunctions growing() {
        SureFunctions x = Programs.allWidths();
        x.variable(0);
        x.make(0, 0, 0, 0);
        x.make(3, 1, 1, 1);
        x.make(3, 2, 2, 2);
        x.make(3, 3, 3, 3);
        x.variable(1);
        x.variable(2);
        x.clause(0, 0, 0, 0, 1);
        x.clause(1, 0, 0, 0, x.make(2, 0, 0, 0));
        x.clause(2, 0, 5, 0, x.make(1, x.call(1, 0, 0, 0), 0, 0));
        x.clause(3, 0, 5, 6, 0);
        x.check();
        return x;
    }

    /** "(none if it ended without)" */
    private static void noAnswerWhenEnded() {
        Edge edge = new Edge(checks, () -> {
            SureFunctions x = growing();
            x.run(3, 4, 1, 1);
            x.run(1, 4, 0, 0);
            return x;
        });
        for (int i : new int[] {-1, 0, 39, 59, 60}) {
            edge.index("promise 13: number " + i + " of a run that ended without", x -> x.answer(i));
        }
        edge.allowedBehind("promise 13: the next run has one again", 0, x -> x.run(3, 1, 1, 1), x -> x.answer(0));
    }

    /** "of the latest run that didn't throw" */
    private static void latestThatDidNotThrow() {
        SureFunctions x = ran();
        checks.argument("promise 12: no such function", () -> x.run(1, 3, 0, 0));
        checks.argument("promise 12: no value", () -> x.run(0, 0, 0, 0));
        checks.due("promise 13: as before", answerOf(x, 4), "2110");
        checks.due("promise 14: as before", 1, () -> x.count(0));
        x.function(0, 0, -1, -1);
        checks.state("promise 12: unchecked", () -> x.run(0, 1, 0, 0));
        checks.due("promise 8: not covered", 3, x::check);
        checks.state("promise 12: wrong", () -> x.run(0, 1, 0, 0));
        checks.due("promise 13: as before, still", answerOf(x, 4), "2110");
        checks.due("promise 14: as before, still", 1, () -> x.count(0));
        x.clause(1, 0, 0, 0, 0);
        x.check();
        x.run(1, 1, 0, 0);
        checks.due("promise 13: a later one", answerOf(x, 1), "0");
        checks.index("promise 13: behind a later one", () -> x.answer(1));
    }

    private static void whateverIsDeclaredBehind() {
        SureFunctions x = ran();
        x.constructor(0, -1, -1, -1);
        x.function(0, 0, -1, -1);
        x.clause(0, 0, 0, 0, 4);
        x.variable(3);
        x.make(1, 3, 0, 0);
        x.call(1, 3, 0, 0);
        x.check();
        checks.due("promise 13: whatever came behind", answerOf(x, 4), "2110");
        checks.index("promise 13: no fifth, whatever came behind", () -> x.answer(4));
        checks.due("promise 14: whatever came behind", 1, () -> x.count(0));
    }

    /** "0 the steps of the latest run that didn't throw"; "0 without a run" */
    private static void stepsOfTheLatest() {
        Edge edge = new Edge(checks, AnswerTest::growing);
        edge.allowed("promise 14: no run", 0, x -> x.count(0));
        edge.allowedBehind("promise 14: one step", 1, x -> x.run(3, 1, 1, 1), x -> x.count(0));
        edge.allowedBehind("promise 14: two steps", 2, x -> x.run(2, 1, 1, 1), x -> x.count(0));
        edge.allowed("promise 14: one step behind two", 1, x -> {
            x.run(2, 1, 1, 1);
            x.run(1, 1, 1, 1);
            return x.count(0);
        });
    }

    /** "the last one too" */
    private static void stepsWhenEnded() {
        Edge edge = new Edge(checks, AnswerTest::growing);
        edge.allowed("promise 14: ended in the first step", 1, x -> x.run(1, 4, 1, 1) + x.count(0));
        edge.allowed("promise 14: ended in the second step", 2, x -> x.run(2, 4, 1, 1) + x.count(0));
    }

    /** "1 constructors, 2 functions, 3 terms, 4 clauses" */
    private static void countsOfAll() {
        Edge edge = new Edge(checks, () -> {
            SureFunctions x = Programs.numbers();
            x.function(0, 0, -1, -1);
            x.clause(0, x.variable(0), 0, 0, 0);
            x.clause(0, x.make(0, 0, 0, 0), 0, 0, 1);
            x.clause(0, x.variable(1), 0, 0, x.call(0, 1, 0, 0));
            return x;
        });
        int[] due = {0, 2, 1, 4, 3, 0};
        for (int n = 0; n <= 5; n++) {
            int what = n;
            edge.allowed("promise 14: count(" + n + ")", due[n], x -> x.count(what));
        }
        edge.allowedBehind("promise 14: a constructor more", 3, x -> x.constructor(0, -1, -1, -1), x -> x.count(1));
        edge.allowedBehind("promise 14: a function more", 2, x -> x.function(0, -1, -1, -1), x -> x.count(2));
        edge.allowedBehind("promise 14: a variable more", 5, x -> x.variable(0), x -> x.count(3));
        edge.allowedBehind("promise 14: a constructor's term more", 5, x -> x.make(0, 0, 0, 0), x -> x.count(3));
        edge.allowedBehind("promise 14: a call more", 5, x -> x.call(0, 0, 0, 0), x -> x.count(3));
        edge.allowedBehind("promise 14: a clause more", 4, x -> x.clause(0, 0, 0, 0, 0), x -> x.count(4));
    }

    private static void fullCounts() {
        SureFunctions x = new SureFunctions();
        for (int i = 0; i < 8; i++) {
            x.constructor(0, -1, -1, -1);
        }
        for (int i = 0; i < 6; i++) {
            x.function(0, 0, -1, -1);
        }
        for (int i = 0; i < 100; i++) {
            x.variable(0);
        }
        for (int i = 0; i < 24; i++) {
            x.clause(i % 6, 0, 0, 0, 0);
        }
        checks.due("promise 14: eight constructors", 8, () -> x.count(1));
        checks.due("promise 14: six functions", 6, () -> x.count(2));
        checks.due("promise 14: a hundred terms", 100, () -> x.count(3));
        checks.due("promise 14: 24 clauses", 24, () -> x.count(4));
        checks.due("promise 8: all full", 0, x::check);
        checks.due("promise 14: all full and all so", 1, () -> x.count(5));
    }

    /** "5 whether the program is checked and all is so (1 or 0)" */
    private static void checkedAndAllSo() {
        Edge edge = new Edge(checks, AnswerTest::boxing);
        edge.allowed("promise 14: checked", 1, x -> x.count(5));
        edge.allowed("promise 14: checked twice", 1, x -> x.check() + x.count(5));
        edge.allowedBehind("promise 14: checked and run", 1, x -> x.run(0, 1, 0, 0), x -> x.count(5));
        edge.allowedBehind("promise 14: a constructor more", 0, x -> x.constructor(0, -1, -1, -1), x -> x.count(5));
        edge.allowedBehind("promise 14: a function more", 0, x -> x.function(0, -1, -1, -1), x -> x.count(5));
        edge.allowedBehind("promise 14: a clause more", 0, x -> x.clause(0, 0, 0, 0, 4), x -> x.count(5));
        edge.allowedBehind("promise 14: a constructor more, and checked", 1,
                x -> x.constructor(0, -1, -1, -1), x -> x.check() + x.count(5));
        edge.allowedBehind("promise 14: a variable more", 1, x -> x.variable(0), x -> x.count(5));
        edge.allowedBehind("promise 14: a constructor's term more", 1, x -> x.make(1, 1, 0, 0), x -> x.count(5));
        edge.allowedBehind("promise 14: a call more", 1, x -> x.call(0, 1, 0, 0), x -> x.count(5));
        wrongAndCounted("not inhabited", 1, x -> x.constructor(2, 2, -1, -1));
        wrongAndCounted("not typed", 2, x -> x.clause(0, 0, 0, 0, 0));
        wrongAndCounted("not covered", 3, x -> x.function(0, -1, -1, -1));
        wrongAndCounted("not ending", 4, x -> x.clause(0, 0, 0, 0, x.call(0, 0, 0, 0)));
    }

    private static void wrongAndCounted(String what, int verdict, ToIntFunction<SureFunctions> declaring) {
        SureFunctions x = boxing();
        declaring.applyAsInt(x);
        checks.due("promise 8: " + what, verdict, x::check);
        checks.due("promise 14: " + what, 0, () -> x.count(5));
    }

    /** "-1 for any other number" */
    private static void anyOtherNumber() {
        for (int what : new int[] {-1, 6, 7, 100, Programs.FAR[0], Programs.FAR[1]}) {
            checks.due("promise 14: count(" + what + ")", -1, () -> ran().count(what));
            checks.due("promise 14: count(" + what + ") of a new object", -1, () -> new SureFunctions().count(what));
        }
    }
}
