/** Promises 9 and 10, and of promise 8 the ending: arcs, graphs, their compositions, and the most that there may be. */
public final class EndingTest {
    private static final Checks checks = new Checks();

    public static void main(String[] args) {
        weakArcs();
        strictArcs();
        noArcs();
        arcsUncheckedAndUntyped();
        callsInTheOrderOfTheBody();
        clausesAsTheyCame();
        noSuchClause();
        noSuchCall();
        manyCallsInOneBody();
        noSuchArgument();
        callsInsideHaveGraphs();
        compositionHasArcs();
        compositionLacksArcs();
        compositionIsStrictForSome();
        compositionIsWeakForAll();
        graphsWithoutArcs();
        sameGraphs();
        onlyFromAFunctionToItself();
        onlyThoseThatAreTheirOwnComposition();
        ownCompositionAlsoInWhatIsStrict();
        strictToTheSameArgument();
        strictOnlyTogether();
        clausesThatNeverCount();
        manyGraphsAgain();
        graphsOfCalls(200, 0);
        graphsOfCalls(201, 4);
        graphsByComposition(200, 0);
        graphsByComposition(201, 4);
        farTooManyGraphs();
        graphsOfTheLatestCheck();
        graphsNotComeTo();
        graphsWhateverCameBehind();
        checks.end();
    }

    private static void verdict(String what, SureFunctions x, int verdict, int graphs) {
        checks.due(what, verdict, x::check);
        checks.due(what + ", graphs()", graphs, x::graphs);
    }

    /** Function 0 of three numbers and 1 of one; terms 0 to 3 variables, 4 zero, 5 one, 6 the next of variable 0. */
    private static SureFunctions start() {
        SureFunctions x = Programs.numbers();
        x.function(0, 0, 0, 0);
        x.function(0, 0, -1, -1);
        for (int v = 0; v < 4; v++) {
            x.variable(v);
        }
        x.make(0, 0, 0, 0);
        x.make(1, 4, 0, 0);
        x.make(1, 0, 0, 0);
        return x;
    }

    /** "if the term for j is the pattern for i (the same term in structure), WEAK" */
    private static void weakArcs() {
        SureFunctions x = start();
        int zero = x.make(0, 0, 0, 0);
        int one = x.make(1, zero, 0, 0);
        int next = x.make(1, x.variable(0), 0, 0);
        x.clause(0, 6, 1, 5, x.call(0, 1, one, next));
        checks.due("promise 10: the same variable", 1, () -> x.arc(0, 0, 1, 0));
        checks.due("promise 10: the same constants, made again", 1, () -> x.arc(0, 0, 2, 1));
        checks.due("promise 10: the same constructor and variable, made again", 1, () -> x.arc(0, 0, 0, 2));
        checks.due("promise 10: another variable", 0, () -> x.arc(0, 0, 1, 2));
        checks.due("promise 10: the same constructor over another", 0, () -> x.arc(0, 0, 0, 1));
        checks.due("promise 10: the same constructor over a variable", 0, () -> x.arc(0, 0, 2, 2));
    }

    /** "or if it is a part, or a part of a part, and so on, of it, STRICT" */
    private static void strictArcs() {
        SureFunctions x = new SureFunctions();
        x.constructor(0, -1, -1, -1);
        x.constructor(0, 0, 0, 0);
        x.function(0, 0, 0, 0);
        for (int v = 0; v < 6; v++) {
            x.variable(v);
        }
        int zero = x.make(0, 0, 0, 0);
        int inner = x.make(1, 0, 1, 2);
        int outer = x.make(1, 3, inner, zero);
        x.clause(0, outer, 4, 5, x.make(1, x.call(0, 3, inner, zero), x.call(0, 0, 1, 2), x.call(0, outer, 4, 5)));
        for (int n = 0; n < 3; n++) {
            int j = n;
            checks.due("promise 10: part " + n, 2, () -> x.arc(0, 0, 0, j));
            checks.due("promise 10: part " + n + " of a part", 2, () -> x.arc(0, 1, 0, j));
            checks.due("promise 10: part " + n + " of another", 0, () -> x.arc(0, 0, 1, j));
        }
        checks.due("promise 10: the whole", 1, () -> x.arc(0, 2, 0, 0));
    }

    /** A term round the pattern, beside it, or a call is no part of it. */
    private static void noArcs() {
        SureFunctions x = start();
        int called = x.call(1, 0, 0, 0);
        x.clause(0, 0, 1, 4, x.call(0, 6, called, 5));
        for (int n = 0; n < 9; n++) {
            int i = n / 3;
            int j = n % 3;
            checks.due("promise 10: no arc from " + i + " to " + j, 0, () -> x.arc(0, 0, i, j));
        }
        checks.due("promise 10: the call inside has one", 1, () -> x.arc(0, 1, 0, 0));
    }

    /** "Checked or not, TYPED or not." */
    private static void arcsUncheckedAndUntyped() {
        SureFunctions x = Programs.numbers();
        x.function(1, 2, 2, -1);
        int zero = x.make(0, 0, 0, 0);
        int one = x.make(1, zero, 0, 0);
        x.clause(0, zero, one, 0, x.call(0, one, zero, 0));
        for (int round = 0; round < 2; round++) {
            checks.due("promise 10: not typed, none", 0, () -> x.arc(0, 0, 0, 0));
            checks.due("promise 10: not typed, weak", 1, () -> x.arc(0, 0, 0, 1));
            checks.due("promise 10: not typed, strict", 2, () -> x.arc(0, 0, 1, 1));
            x.check();
        }
    }

    /** "(from 0, in the order of the body: a call before those in its arguments, arguments from the first on)" */
    private static void callsInTheOrderOfTheBody() {
        SureFunctions x = start();
        x.constructor(0, 0, 0, -1);
        int a = x.call(1, 0, 0, 0);
        int b = x.call(1, 1, 0, 0);
        int c = x.call(1, 2, 0, 0);
        int outer = x.call(0, a, x.make(1, b, 0, 0), 2);
        x.clause(0, 0, 1, 2, x.make(2, outer, c, 0));
        checks.due("promise 10: first the call outside", 1, () -> x.arc(0, 0, 2, 2));
        checks.due("promise 10: then the call in its first argument", 1, () -> x.arc(0, 1, 0, 0));
        checks.due("promise 10: then the one inside of its second", 1, () -> x.arc(0, 2, 1, 0));
        checks.due("promise 10: then the one in the next part", 1, () -> x.arc(0, 3, 2, 0));
        checks.argument("promise 10: and no other", () -> x.arc(0, 4, 0, 0));
        checks.argument("promise 10: the second has one argument", () -> x.arc(0, 1, 0, 1));
    }

    /** "the clause's (counted from 0, over all functions, as they came)" */
    private static void clausesAsTheyCame() {
        SureFunctions x = start();
        x.clause(1, 6, 0, 0, x.call(1, 0, 0, 0));
        x.clause(0, 0, 1, 2, x.call(1, 1, 0, 0));
        x.clause(1, 0, 0, 0, x.call(1, 0, 0, 0));
        checks.due("promise 10: clause 0", 2, () -> x.arc(0, 0, 0, 0));
        checks.due("promise 10: clause 1", 0, () -> x.arc(1, 0, 0, 0));
        checks.due("promise 10: clause 1 has three arguments", 1, () -> x.arc(1, 0, 1, 0));
        checks.due("promise 10: clause 2", 1, () -> x.arc(2, 0, 0, 0));
    }

    /** Clause 0 of function 0 calls function 1, clause 1 of function 1 calls function 0, clause 2 calls none. */
    private static SureFunctions threeClauses() {
        SureFunctions x = start();
        x.clause(0, 0, 1, 2, x.call(1, 2, 0, 0));
        x.clause(1, 0, 0, 0, x.call(0, 0, 0, 0));
        x.clause(1, 0, 0, 0, 0);
        return x;
    }

    /** "IllegalArgumentException when there is no such clause" */
    private static void noSuchClause() {
        Edge edge = new Edge(checks, EndingTest::threeClauses);
        edge.allowed("promise 10: the first clause", 1, x -> x.arc(0, 0, 2, 0));
        edge.argument("promise 10: clause -1", x -> x.arc(-1, 0, 0, 0));
        edge.argument("promise 10: clause 3", x -> x.arc(3, 0, 0, 0));
        for (int clause : Programs.FAR) {
            edge.argument("promise 10: a far clause", x -> x.arc(clause, 0, 0, 0));
        }
        new Edge(checks, SureFunctions::new).argument("promise 10: no clause", x -> x.arc(0, 0, 0, 0));
        Edge full = new Edge(checks, EndingTest::twentyFourClauses);
        full.allowed("promise 10: the last of 24 clauses", 1, x -> x.arc(23, 0, 0, 0));
        full.argument("promise 10: one behind the last of 24 clauses", x -> x.arc(24, 0, 0, 0));
    }

    private static SureFunctions twentyFourClauses() {
        SureFunctions x = Programs.numbers();
        int v = x.variable(0);
        for (int clause = 0; clause < 24; clause++) {
            if (clause % 6 == 0) {
                x.function(0, 0, -1, -1);
            }
            x.clause(clause / 6, v, 0, 0, clause < 23 ? v : x.call(0, v, 0, 0));
        }
        return x;
    }

    /** "or call" */
    private static void noSuchCall() {
        Edge edge = new Edge(checks, EndingTest::threeClauses);
        edge.argument("promise 10: call -1", x -> x.arc(0, -1, 0, 0));
        edge.argument("promise 10: call 1 of one", x -> x.arc(0, 1, 0, 0));
        edge.argument("promise 10: call 0 of none", x -> x.arc(2, 0, 0, 0));
        for (int k : Programs.FAR) {
            edge.argument("promise 10: a far call", x -> x.arc(0, k, 0, 0));
        }
        Edge behind = new Edge(checks, () -> {
            SureFunctions x = threeClauses();
            x.clause(1, 0, 0, 0, x.call(1, x.call(1, 0, 0, 0), 0, 0));
            x.arc(3, 1, 0, 0);
            return x;
        });
        behind.argument("promise 10: call 1 of one, behind a clause with more", x -> x.arc(0, 1, 0, 0));
        behind.argument("promise 10: call 0 of none, behind a clause with more", x -> x.arc(2, 0, 0, 0));
    }

    /** A body of 39 calls and a variable in the last of them: as many as can be, if the last is to have an argument. */
    private static void manyCallsInOneBody() {
        Edge edge = new Edge(checks, () -> {
            SureFunctions x = Programs.allWidths();
            int v = x.variable(0);
            int one = x.call(0, 0, 0, 0);
            int four = x.call(3, one, one, one);
            int thirteen = x.call(3, four, four, four);
            int fourToo = x.call(2, one, x.call(1, v, 0, 0), 0);
            x.clause(1, v, 0, 0, x.call(3, thirteen, thirteen, x.call(3, four, four, fourToo)));
            return x;
        });
        edge.allowed("promise 10: the first of 39 calls", 0, x -> x.arc(0, 0, 0, 2));
        edge.allowed("promise 10: the last of 39 calls", 1, x -> x.arc(0, 38, 0, 0));
        edge.argument("promise 10: one behind the last of 39 calls", x -> x.arc(0, 39, 0, 0));
        Edge forty = new Edge(checks, () -> {
            SureFunctions x = Programs.allWidths();
            int one = x.call(0, 0, 0, 0);
            int four = x.call(3, one, one, one);
            int thirteen = x.call(3, four, four, four);
            x.clause(1, x.variable(0), 0, 0, x.call(3, thirteen, thirteen, thirteen));
            return x;
        });
        forty.allowed("promise 10: the last of forty calls that has arguments", 0, x -> x.arc(0, 36, 0, 2));
        forty.argument("promise 10: the last of forty calls has no argument", x -> x.arc(0, 39, 0, 0));
        forty.argument("promise 10: one behind the last of forty calls", x -> x.arc(0, 40, 0, 0));
    }

    /** "or no such argument of the clause's or the called function" */
    private static void noSuchArgument() {
        Edge edge = new Edge(checks, EndingTest::threeClauses);
        edge.allowed("promise 10: from the last of three", 1, x -> x.arc(0, 0, 2, 0));
        edge.allowed("promise 10: to the last of three", 1, x -> x.arc(1, 0, 0, 2));
        edge.argument("promise 10: from behind the last of three", x -> x.arc(0, 0, 3, 0));
        edge.argument("promise 10: from behind the last of one", x -> x.arc(1, 0, 1, 0));
        edge.argument("promise 10: to behind the last of one", x -> x.arc(0, 0, 0, 1));
        edge.argument("promise 10: to behind the last of three", x -> x.arc(1, 0, 0, 3));
        edge.argument("promise 10: from -1", x -> x.arc(0, 0, -1, 0));
        edge.argument("promise 10: to -1", x -> x.arc(0, 0, 0, -1));
        for (int far : Programs.FAR) {
            edge.argument("promise 10: from a far one", x -> x.arc(0, 0, far, 0));
            edge.argument("promise 10: to a far one", x -> x.arc(0, 0, 0, far));
        }
        Edge none = new Edge(checks, () -> {
            SureFunctions x = start();
            x.function(0, -1, -1, -1);
            int called = x.call(2, 0, 0, 0);
            x.clause(2, 0, 0, 0, x.call(1, 4, 0, 0));
            x.clause(1, 0, 0, 0, called);
            return x;
        });
        none.argument("promise 10: from one of none", x -> x.arc(0, 0, 0, 0));
        none.argument("promise 10: to one of none", x -> x.arc(1, 0, 0, 0));
    }

    /** "Each call in the body of a clause (also inside of others) has a GRAPH" */
    private static void callsInsideHaveGraphs() {
        SureFunctions x = Programs.numbers();
        x.function(0, 0, -1, -1);
        x.function(0, 0, -1, -1);
        int v = x.variable(0);
        x.clause(0, v, 0, 0, x.call(1, x.make(1, x.call(0, v, 0, 0), 0, 0), 0, 0));
        x.clause(1, v, 0, 0, v);
        verdict("promise 8: a call of itself inside of another's argument", x, 4, 2);
    }

    /**
     * Function 0 calls 1 and 1 calls 0, each with one of these patterns for its two arguments and with these terms.
     * Terms 0 and 1 are variables, 2 and 3 their nexts, 4 zero.
     */
    private static SureFunctions two(int[] first, int[] second) {
        SureFunctions x = Programs.numbers();
        x.function(0, 0, 0, -1);
        x.function(0, 0, 0, -1);
        x.variable(0);
        x.variable(1);
        x.make(1, 0, 0, 0);
        x.make(1, 1, 0, 0);
        x.make(0, 0, 0, 0);
        x.clause(0, first[0], first[1], 0, x.call(1, first[2], first[3], 0));
        x.clause(0, 0, 1, 0, 0);
        x.clause(1, second[0], second[1], 0, x.call(0, second[2], second[3], 0));
        x.clause(1, 0, 1, 0, 0);
        return x;
    }

    /** "an arc from i to k is there if for some j the first has i to j and the second j to k" */
    private static void compositionHasArcs() {
        verdict("promise 8: smaller over the first", two(new int[] {2, 1, 0, 4}, new int[] {0, 1, 0, 4}), 0, 5);
        verdict("promise 8: smaller over the second", two(new int[] {2, 1, 4, 0}, new int[] {0, 1, 1, 4}), 0, 5);
        verdict("promise 8: smaller the other way", two(new int[] {0, 1, 4, 1}, new int[] {0, 3, 4, 1}), 0, 5);
    }

    private static void compositionLacksArcs() {
        verdict("promise 8: the arcs don't meet", two(new int[] {2, 1, 0, 4}, new int[] {0, 3, 1, 4}), 4, 7);
    }

    /** "strict if for some such j one of both is strict": over the first it is weak, over the second it is strict. */
    private static void compositionIsStrictForSome() {
        verdict("promise 8: strict over one of two", two(new int[] {2, 1, 2, 0}, new int[] {4, 4, 4, 4}), 0, 7);
        verdict("promise 8: strict over the other", two(new int[] {2, 1, 0, 2}, new int[] {4, 4, 4, 4}), 0, 7);
    }

    private static void compositionIsWeakForAll() {
        verdict("promise 8: weak and weak", two(new int[] {0, 1, 0, 1}, new int[] {0, 1, 0, 1}), 4, 4);
        verdict("promise 8: weak and weak, turned", two(new int[] {0, 1, 1, 0}, new int[] {0, 1, 1, 0}), 4, 4);
    }

    /** "all are made, whether some of them lack an arc or not" */
    private static void graphsWithoutArcs() {
        SureFunctions x = Programs.numbers();
        x.function(0, 0, -1, -1);
        x.function(0, 0, -1, -1);
        x.function(0, -1, -1, -1);
        int v = x.variable(0);
        int zero = x.make(0, 0, 0, 0);
        x.clause(0, v, 0, 0, x.call(1, zero, 0, 0));
        x.clause(1, v, 0, 0, x.call(2, 0, 0, 0));
        x.clause(2, 0, 0, 0, zero);
        verdict("promise 9: two calls and their composition, all without arcs", x, 0, 3);
        SureFunctions y = Programs.numbers();
        y.function(0, -1, -1, -1);
        y.clause(0, 0, 0, 0, y.call(0, 0, 0, 0));
        verdict("promise 8: a call of itself without arguments", y, 4, 1);
    }

    /** "(two are the same if functions and arcs are)" */
    private static void sameGraphs() {
        SureFunctions x = Programs.numbers();
        for (int f = 0; f < 3; f++) {
            x.function(0, 0, -1, -1);
        }
        int v = x.variable(0);
        int w = x.variable(5);
        int next = x.make(1, v, 0, 0);
        int zero = x.make(0, 0, 0, 0);
        x.clause(1, v, 0, 0, v);
        x.clause(2, v, 0, 0, v);
        x.clause(0, v, 0, 0, v);
        x.clause(0, next, 0, 0, x.call(1, v, 0, 0));
        verdict("promise 9: one call", x, 0, 1);
        x.clause(0, x.make(1, w, 0, 0), 0, 0, x.make(1, x.call(1, w, 0, 0), 0, 0));
        verdict("promise 9: another clause with the same arcs", x, 0, 1);
        x.clause(0, v, 0, 0, x.call(1, v, 0, 0));
        verdict("promise 9: the same arc, but weak", x, 0, 2);
        x.clause(0, v, 0, 0, x.call(1, zero, 0, 0));
        verdict("promise 9: without the arc", x, 0, 3);
        x.clause(0, v, 0, 0, x.call(2, v, 0, 0));
        verdict("promise 9: the same arc to another function", x, 0, 4);
        x.clause(1, v, 0, 0, x.call(2, v, 0, 0));
        verdict("promise 9: the same arc from another function, and two that come with it", x, 0, 7);
    }

    /** "every graph from a function to itself": those to others may lack all. */
    private static void onlyFromAFunctionToItself() {
        SureFunctions x = Programs.numbers();
        x.function(0, 0, -1, -1);
        x.function(0, 0, -1, -1);
        int v = x.variable(0);
        int zero = x.make(0, 0, 0, 0);
        x.clause(0, v, 0, 0, x.call(1, zero, 0, 0));
        x.clause(1, v, 0, 0, v);
        verdict("promise 8: a call of another", x, 0, 1);
        x.clause(1, v, 0, 0, x.call(0, v, 0, 0));
        verdict("promise 8: which calls back", x, 4, 5);
    }

    /** "whose composition with itself is itself": f(next(a), b) = f(b, a) has no arc to the same argument. */
    private static void onlyThoseThatAreTheirOwnComposition() {
        SureFunctions x = Programs.numbers();
        x.function(0, 0, 0, -1);
        int v = x.variable(0);
        int w = x.variable(1);
        x.clause(0, x.make(1, v, 0, 0), w, 0, x.call(0, w, v, 0));
        x.clause(0, v, w, 0, v);
        verdict("promise 8: exchanged, and one gets smaller", x, 0, 3);
        checks.due("promise 10: strict to the other place", 2, () -> x.arc(0, 0, 0, 1));
        checks.due("promise 10: weak to the other place", 1, () -> x.arc(0, 0, 1, 0));
        x.clause(0, v, w, 0, x.call(0, w, v, 0));
        verdict("promise 8: exchanged, and none gets smaller", x, 4, 8);
    }

    /**
     * f(zero, next(b), one) = g(zero, next(b), next(b)), g(a, b, zero) = h(a, b, b) and h(zero, zero, next(c)) =
     * f(zero, zero, c): all three together have a graph without a strict arc to the same argument, whose composition
     * with itself has the same arcs, but more of them strict.
     */
    private static void ownCompositionAlsoInWhatIsStrict() {
        SureFunctions x = Programs.numbers();
        for (int f = 0; f < 3; f++) {
            x.function(0, 0, 0, 0);
        }
        int a = x.variable(0);
        int b = x.variable(1);
        int c = x.variable(2);
        int zero = x.make(0, 0, 0, 0);
        int one = x.make(1, zero, 0, 0);
        int nextB = x.make(1, b, 0, 0);
        int nextC = x.make(1, c, 0, 0);
        x.clause(0, zero, nextB, one, x.call(1, zero, nextB, nextB));
        x.clause(1, a, b, zero, x.call(2, a, b, b));
        x.clause(2, zero, zero, nextC, x.call(0, zero, zero, c));
        for (int f = 0; f < 3; f++) {
            x.clause(f, a, b, c, zero);
        }
        verdict("promise 8: its own composition but for what is strict", x, 0, 30);
    }

    /** "has a strict arc from some argument to the same one": f(next(a), b) = f(next(a), a) has one to another. */
    private static void strictToTheSameArgument() {
        for (int place = 0; place < 3; place++) {
            SureFunctions x = start();
            x.clause(0, 0, 1, 2, 0);
            x.clause(1, 0, 0, 0, 0);
            int[] p = {0, 1, 2};
            p[place] = x.make(1, 3, 0, 0);
            int[] smaller = p.clone();
            smaller[place] = 3;
            x.clause(0, p[0], p[1], p[2], x.call(0, smaller[0], smaller[1], smaller[2]));
            verdict("promise 8: strict to the same argument " + place, x, 0, 1);
            int[] beside = p.clone();
            beside[(place + 1) % 3] = 3;
            x.clause(0, p[0], p[1], p[2], x.call(0, beside[0], beside[1], beside[2]));
            checks.due("promise 8: strict to another argument than " + place, 4, x::check);
        }
    }

    /** f(next(a), b) = f(a, next(b)) and f(a, next(b)) = f(next(a), b): each gets smaller somewhere, both nowhere. */
    private static void strictOnlyTogether() {
        SureFunctions x = Programs.numbers();
        x.function(0, 0, 0, -1);
        int v = x.variable(0);
        int w = x.variable(1);
        int nextV = x.make(1, v, 0, 0);
        int nextW = x.make(1, w, 0, 0);
        x.clause(0, nextV, w, 0, x.call(0, v, nextW, 0));
        x.clause(0, v, w, 0, v);
        verdict("promise 8: one place gets smaller", x, 0, 1);
        x.clause(0, v, nextW, 0, x.call(0, nextV, w, 0));
        verdict("promise 8: no place gets smaller in both", x, 4, 3);
    }

    private static void clausesThatNeverCount() {
        SureFunctions x = Programs.numbers();
        x.function(0, 0, -1, -1);
        int v = x.variable(0);
        x.clause(0, v, 0, 0, v);
        x.clause(0, v, 0, 0, x.call(0, v, 0, 0));
        verdict("promise 8: a clause that never counts has its graph", x, 4, 1);
    }

    /**
     * Functions 0 to 3 call function 4 in 22 clauses, with as many calls as are asked for, nine to a clause at most; so
     * many clauses of a function have graphs that differ, and what function 4 does is left open.
     */
    private static SureFunctions manyCalls(int many, int differing) {
        SureFunctions x = new SureFunctions();
        x.constructor(0, -1, -1, -1);
        x.constructor(0, 0, 0, 0);
        x.constructor(1, 0, -1, -1);
        for (int f = 0; f < 4; f++) {
            x.function(0, 1, 1, 1);
        }
        x.function(0, 0, 0, 0);
        int[] leaf = {x.variable(0), x.variable(1), x.variable(2), x.make(0, 0, 0, 0)};
        int[] box = {x.make(2, leaf[0], 0, 0), x.make(2, leaf[1], 0, 0), x.make(2, leaf[2], 0, 0)};
        int[] call = new int[54];
        for (int i = 0; i < 54; i++) {
            call[i] = x.call(4, leaf[i % 4], leaf[i / 4 % 4], leaf[i / 16]);
        }
        int[] whole = new int[6];
        for (int i = 0; i < 6; i++) {
            whole[i] = nine(x, call, 9 * i, 9, leaf[3]);
        }
        for (int clause = 0; clause < 22; clause++) {
            int here = Math.max(0, Math.min(9, many - 9 * clause));
            int at = clause % 6 % differing;
            int body = here == 9 ? whole[at] : here == 0 ? leaf[3] : nine(x, call, 9 * at, here, leaf[3]);
            x.clause(clause / 6, box[0], box[1], box[2], body);
        }
        return x;
    }

    /** A body with so many calls from one on, and constants in place of the others of nine. */
    private static int nine(SureFunctions x, int[] call, int from, int many, int constant) {
        int[] third = new int[3];
        for (int i = 0; i < 3; i++) {
            int[] c = new int[3];
            for (int j = 0; j < 3; j++) {
                c[j] = 3 * i + j < many ? call[from + 3 * i + j] : constant;
            }
            third[i] = x.make(1, c[0], c[1], c[2]);
        }
        return x.make(1, third[0], third[1], third[2]);
    }

    /** Of nine calls in each of 22 clauses those of three clauses differ, for each of four functions. */
    private static void manyGraphsAgain() {
        SureFunctions x = manyCalls(198, 3);
        x.clause(4, 0, 1, 2, 0);
        verdict("promise 9: 27 graphs from each function, most of them twice", x, 0, 4 * 27);
    }

    /** "When there would be more than 200 graphs, this is wrong, too"; "(201 if there would be more than 200)" */
    private static void graphsOfCalls(int graphs, int want) {
        SureFunctions x = manyCalls(198, 6);
        int zero = 3;
        x.function(0, 0, 0, 0);
        int none = x.call(4, zero, zero, zero);
        int one = x.call(4, 0, zero, zero);
        int other = x.call(4, zero, 0, zero);
        x.clause(4, 0, 1, 2, 0);
        x.clause(5, 0, 1, 2, x.make(1, none, one, graphs == 201 ? other : zero));
        verdict("promise 8: " + graphs + " graphs of calls", x, want, graphs);
        checks.due("promise 14: " + graphs + " graphs of calls", want == 0 ? 1 : 0, () -> x.count(5));
    }

    /** Function 4 calls 5 without arguments: one graph more, and one from each of four functions by composition. */
    private static void graphsByComposition(int graphs, int want) {
        SureFunctions x = manyCalls(graphs - 5, 6);
        x.function(0, -1, -1, -1);
        int zero = 3;
        x.clause(4, 0, 1, 2, x.call(5, 0, 0, 0));
        x.clause(5, 0, 0, 0, zero);
        verdict("promise 8: " + graphs + " graphs with compositions", x, want, graphs);
        String told = Checks.told(() -> x.run(5, 0, 0, 0));
        checks.due("promise 12: " + graphs + " graphs", told, want == 0 ? "1" : "throws.IllegalStateException");
    }

    private static void farTooManyGraphs() {
        SureFunctions x = manyCalls(198, 6);
        x.function(0, 0, 0, 0);
        x.clause(4, 0, 1, 2, x.call(5, 2, 0, 1));
        x.clause(5, 0, 1, 2, 0);
        verdict("promise 9: 397 graphs", x, 4, 201);
    }

    /** A program with one graph, checked. */
    private static SureFunctions countingDown() {
        SureFunctions x = Programs.numbers();
        x.function(0, 0, -1, -1);
        int v = x.variable(0);
        x.clause(0, x.make(1, v, 0, 0), 0, 0, x.call(0, v, 0, 0));
        x.clause(0, v, 0, 0, v);
        x.check();
        return x;
    }

    /** "How many graphs there are, by the latest check()"; "or there was none" */
    private static void graphsOfTheLatestCheck() {
        checks.due("promise 9: no check", 0, () -> new SureFunctions().graphs());
        SureFunctions x = countingDown();
        checks.due("promise 9: one graph", 1, x::graphs);
        x.clause(0, 0, 0, 0, x.call(0, x.make(0, 0, 0, 0), 0, 0));
        verdict("promise 9: two graphs", x, 4, 2);
        verdict("promise 9: two graphs, again", x, 4, 2);
    }

    /** "0 if it didn't come to them" */
    private static void graphsNotComeTo() {
        SureFunctions x = countingDown();
        x.constructor(0, -1, -1, -1);
        x.function(1, -1, -1, -1);
        verdict("promise 9: not inhabited", x, 1, 0);
        SureFunctions y = countingDown();
        y.constructor(1, -1, -1, -1);
        y.clause(0, 0, 0, 0, y.make(2, 0, 0, 0));
        verdict("promise 9: not typed", y, 2, 0);
        SureFunctions z = countingDown();
        z.function(0, 0, -1, -1);
        verdict("promise 9: not covered", z, 3, 0);
        SureFunctions w = countingDown();
        w.clause(0, 0, 0, 0, w.call(0, 0, 0, 0));
        verdict("promise 9: not ending", w, 4, 2);
    }

    /** "whatever came behind it" */
    private static void graphsWhateverCameBehind() {
        Edge edge = new Edge(checks, EndingTest::countingDown);
        edge.allowedBehind("promise 9: behind a constructor", 1, x -> x.constructor(1, 1, -1, -1), x -> x.graphs());
        edge.allowedBehind("promise 9: behind a function", 1, x -> x.function(0, 0, -1, -1), x -> x.graphs());
        edge.allowedBehind("promise 9: behind a clause", 1, x -> x.clause(0, 0, 0, 0, 2), x -> x.graphs());
        edge.allowedBehind("promise 9: behind a variable", 1, x -> x.variable(0), x -> x.graphs());
        edge.allowedBehind("promise 9: behind a call", 1, x -> x.call(0, 2, 0, 0), x -> x.graphs());
        edge.allowedBehind("promise 9: behind a run", 1, x -> x.run(0, x.make(0, 0, 0, 0), 0, 0), x -> x.graphs());
        edge.allowedBehind("promise 9: behind arcs", 1, x -> x.arc(0, 0, 0, 0), x -> x.graphs());
    }
}
