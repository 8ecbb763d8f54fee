/** Promise 8 and what a program is checked for, but for its ending: that it is inhabited, typed and covered. */
public final class CheckTest {
    private static final int[][] ORDERS = {{0, 1, 2}, {0, 2, 1}, {1, 0, 2}, {1, 2, 0}, {2, 0, 1}, {2, 1, 0}};

    private static final Checks checks = new Checks();

    public static void main(String[] args) {
        nothingDeclared();
        inhabitedByConstructors();
        inhabitedForFunctions();
        inhabitedInAnyOrder();
        inhabitedWithoutTypesInNoUse();
        typedPatterns();
        typedBody();
        typedParts();
        typedArguments();
        typedVariables();
        typedEverywhere();
        coveredWithoutArguments();
        coveredByEachConstructor();
        coveredRowByRow();
        coveredByLookingElsewhere();
        coveredInside();
        coveredInPartsOfSeveralTypes();
        coveredByTheOnlyConstructor();
        coveredForEachFunction();
        coveredByEight();
        coveredByTheLastOfSix();
        coveredBySpellingOutAll();
        coveredInTwelvePlaces();
        firstWrong();
        checks.end();
    }

    /** "(also one in which nothing is declared: 0)" */
    private static void nothingDeclared() {
        Edge edge = new Edge(checks, SureFunctions::new);
        edge.allowed("promise 8: nothing declared", 0, SureFunctions::check);
        SureFunctions x = new SureFunctions();
        x.variable(0);
        checks.due("promise 8: nothing but a term", 0, x::check);
    }

    /** "every type that some constructor makes or has as a part .. has a value" */
    private static void inhabitedByConstructors() {
        for (int n = 0; n < 3; n++) {
            int type = n;
            Edge made = new Edge(checks, () -> {
                SureFunctions x = new SureFunctions();
                x.constructor(type, type, -1, -1);
                return x;
            });
            made.allowed("promise 8: type " + n + " needs itself", 1, SureFunctions::check);
            made.allowed("promise 8: type " + n + " begins somewhere", 0, x -> {
                x.constructor(type, -1, -1, -1);
                return x.check();
            });
        }
        for (int place = 0; place < 3; place++) {
            int[] parts = {0, 0, 0};
            parts[place] = 1;
            SureFunctions x = new SureFunctions();
            x.constructor(0, -1, -1, -1);
            x.constructor(0, parts[0], parts[1], parts[2]);
            checks.due("promise 8: part " + place + " is of a type without a value", 1, x::check);
            x.constructor(1, -1, -1, -1);
            checks.due("promise 8: part " + place + " is of a type with one", 0, x::check);
        }
    }

    /** "or some function has as answer or argument" */
    private static void inhabitedForFunctions() {
        for (int place = 0; place < 4; place++) {
            int[] types = {0, 0, 0, 0};
            types[place] = 2;
            SureFunctions x = new SureFunctions();
            x.constructor(0, -1, -1, -1);
            x.function(types[0], types[1], types[2], types[3]);
            checks.due("promise 8: type " + place + " of a function has no value", 1, x::check);
            x.constructor(2, -1, -1, -1);
            checks.due("promise 8: type " + place + " of a function has one, but there is no clause", 3, x::check);
        }
    }

    /** Values of one type may need those of the next, in whatever order the constructors came. */
    private static void inhabitedInAnyOrder() {
        for (int[] order : ORDERS) {
            SureFunctions x = new SureFunctions();
            for (int step : order) {
                x.constructor(step, step < 2 ? step + 1 : -1, -1, -1);
            }
            checks.due("promise 8: types that need one another", 0, x::check);
            SureFunctions y = new SureFunctions();
            for (int step : order) {
                y.constructor(step, (step + 1) % 3, -1, -1);
            }
            checks.due("promise 8: types that need one another in a circle", 1, y::check);
        }
    }

    private static void inhabitedWithoutTypesInNoUse() {
        for (int n = 0; n < 3; n++) {
            SureFunctions x = new SureFunctions();
            x.constructor(n, -1, 0, 0);
            checks.due("promise 8: types 0 .. 2 but " + n + " are in no use", 0, x::check);
        }
    }

    /** Constants 0 and 1 of types 0 and 1 (terms 0 and 1), pairs 2 (term 2) of both in type 2, variables 3 to 5. */
    private static SureFunctions typed() {
        SureFunctions x = new SureFunctions();
        x.constructor(0, -1, -1, -1);
        x.constructor(1, -1, -1, -1);
        x.constructor(2, 0, 1, -1);
        x.make(0, 0, 0, 0);
        x.make(1, 0, 0, 0);
        x.make(2, 0, 1, 0);
        x.variable(0);
        x.variable(1);
        x.variable(2);
        return x;
    }

    private static void clauseOf(String what, int want, SureFunctions x, int... c) {
        x.clause(c[0], c[1], c[2], c[3], c[4]);
        checks.due(what, want, x::check);
    }

    /** "in every clause, each pattern is of its argument's type" */
    private static void typedPatterns() {
        for (int place = 0; place < 3; place++) {
            for (int pattern = 0; pattern < 4; pattern++) {
                SureFunctions x = typed();
                x.function(0, 0, 1, 2);
                x.clause(0, 3, 4, 5, 0);
                int[] p = {3, 4, 5};
                p[place] = pattern == 3 ? x.variable(7) : pattern;
                int want = pattern == 3 || pattern == place ? 0 : 2;
                clauseOf("promise 8: pattern " + pattern + " in place " + place, want, x, 0, p[0], p[1], p[2], 0);
            }
        }
    }

    /** "and the body of the answer's" */
    private static void typedBody() {
        for (int body = 0; body < 3; body++) {
            for (int answer = 0; answer < 3; answer++) {
                SureFunctions x = typed();
                x.function(answer, -1, -1, -1);
                clauseOf("promise 8: body " + body + " for answer " + answer, body == answer ? 0 : 2,
                        x, 0, 0, 0, 0, body);
            }
        }
    }

    /** "a constructor's term is of the type that it makes, with parts of their types", in patterns and in bodies. */
    private static void typedParts() {
        int[][] parts = {{0, 1}, {1, 1}, {0, 0}, {1, 0}, {2, 1}, {0, 2}};
        for (int n = 0; n < parts.length; n++) {
            SureFunctions x = typed();
            x.function(2, -1, -1, -1);
            int body = x.make(2, parts[n][0], parts[n][1], 0);
            clauseOf("promise 8: parts " + n + " in a body", n == 0 ? 0 : 2, x, 0, 0, 0, 0, body);
        }
        for (int n = 0; n < 4; n++) {
            SureFunctions x = typed();
            x.function(0, 2, -1, -1);
            x.clause(0, 3, 0, 0, 0);
            int pattern = x.make(2, parts[n][0], parts[n][1], 0);
            clauseOf("promise 8: parts " + n + " in a pattern", n == 0 ? 0 : 2, x, 0, pattern, 0, 0, 0);
        }
    }

    /** "a call of the answer's, with arguments of their types" */
    private static void typedArguments() {
        for (int place = 0; place < 3; place++) {
            for (int argument = 0; argument < 3; argument++) {
                SureFunctions x = typed();
                x.function(1, -1, -1, -1);
                x.function(1, 0, 1, 2);
                x.clause(1, 3, 4, 5, 1);
                int[] a = {0, 1, 2};
                a[place] = argument;
                int call = x.call(1, a[0], a[1], a[2]);
                clauseOf("promise 8: argument " + argument + " in place " + place, argument == place ? 0 : 2,
                        x, 0, 0, 0, 0, call);
            }
        }
        for (int answer = 0; answer < 3; answer++) {
            SureFunctions x = typed();
            x.function(1, -1, -1, -1);
            x.function(answer, -1, -1, -1);
            x.clause(1, 0, 0, 0, answer);
            clauseOf("promise 8: a call with answer " + answer, answer == 1 ? 0 : 2, x, 0, 0, 0, 0, x.call(1, 0, 0, 0));
        }
    }

    /** "a variable has one type in the whole clause, the one that its place in the patterns has" */
    private static void typedVariables() {
        for (int body = 3; body <= 5; body++) {
            for (int answer = 0; answer < 3; answer++) {
                SureFunctions x = typed();
                x.function(answer, 0, 1, 2);
                clauseOf("promise 8: the variable of place " + (body - 3) + " for answer " + answer,
                        body - 3 == answer ? 0 : 2, x, 0, 3, 4, 5, body);
            }
        }
        for (int body = 3; body <= 4; body++) {
            SureFunctions x = typed();
            x.function(1, 2, -1, -1);
            clauseOf("promise 8: the variable of part " + (body - 3), body == 4 ? 0 : 2,
                    x, 0, x.make(2, 3, 4, 0), 0, 0, body);
        }
        SureFunctions x = typed();
        x.function(2, 0, 1, -1);
        clauseOf("promise 8: variables in their places inside of the body", 0, x, 0, 3, 4, 0, x.make(2, 3, 4, 0));
        clauseOf("promise 8: the types of another clause are not those of this", 2, x, 0, 4, 3, 0, x.make(2, 3, 4, 0));
        SureFunctions y = typed();
        y.function(2, 0, 1, -1);
        int both = y.call(0, y.make(0, 0, 0, 0), 4, 0);
        clauseOf("promise 8: a variable in another place of a call", 2, y, 0, 4, 1, 0, both);
    }

    /** "in every clause": also in one that never counts, and deep inside of the body. */
    private static void typedEverywhere() {
        SureFunctions x = typed();
        x.function(0, 0, -1, -1);
        x.clause(0, 3, 0, 0, 0);
        x.clause(0, 3, 0, 0, 3);
        clauseOf("promise 8: a clause that never counts", 2, x, 0, 3, 0, 0, 1);
        SureFunctions y = Programs.numbers();
        y.constructor(1, -1, -1, -1);
        y.function(0, -1, -1, -1);
        int other = y.make(2, 0, 0, 0);
        int deep = Programs.wrapped(y, other, 5);
        clauseOf("promise 8: another type five parts deep", 2, y, 0, 0, 0, 0, deep);
    }

    /** "(without arguments the one row of none)" */
    private static void coveredWithoutArguments() {
        Edge edge = new Edge(checks, () -> {
            SureFunctions x = Programs.numbers();
            x.function(0, -1, -1, -1);
            x.make(0, 0, 0, 0);
            return x;
        });
        edge.allowed("promise 8: the row of none has no clause", 3, SureFunctions::check);
        edge.allowed("promise 8: the row of none has one", 0, x -> {
            x.clause(0, 0, 0, 0, 0);
            return x.check();
        });
    }

    /** A clause for each constructor in each place, and one of them left out. */
    private static void coveredByEachConstructor() {
        for (int place = 0; place < 3; place++) {
            for (int left = 0; left <= 3; left++) {
                SureFunctions x = new SureFunctions();
                for (int c = 0; c < 3; c++) {
                    x.constructor(0, -1, -1, -1);
                }
                x.function(0, 0, 0, 0);
                x.variable(0);
                x.variable(1);
                x.variable(2);
                for (int c = 0; c < 3; c++) {
                    int[] p = {0, 1, 2};
                    p[place] = x.make(c, 0, 0, 0);
                    if (c != left) {
                        x.clause(0, p[0], p[1], p[2], p[place]);
                    }
                }
                checks.due("promise 8: constructor " + left + " left out, place " + place, left < 3 ? 3 : 0, x::check);
            }
        }
    }

    /** "every row of values of the arguments' types matches some clause": each row but one is not enough. */
    private static void coveredRowByRow() {
        for (int left = -1; left < 4; left++) {
            SureFunctions x = Programs.numbers();
            x.function(0, 0, 0, -1);
            int zero = x.make(0, 0, 0, 0);
            int[] first = {zero, x.make(1, x.variable(0), 0, 0)};
            int[] second = {zero, x.make(1, x.variable(1), 0, 0)};
            for (int row = 0; row < 4; row++) {
                if (row != left) {
                    x.clause(0, first[row / 2], second[row % 2], 0, zero);
                }
            }
            checks.due("promise 8: row " + left + " left out", left < 0 ? 0 : 3, x::check);
            x.clause(0, x.variable(2), x.variable(3), 0, zero);
            checks.due("promise 8: row " + left + " left to variables", 0, x::check);
        }
    }

    /** What no clause names in one place may be covered by clauses that look at another. */
    private static void coveredByLookingElsewhere() {
        int[][] orders = {{0, 1}, {1, 0}};
        for (int[] order : orders) {
            SureFunctions x = Programs.numbers();
            x.function(0, 0, 0, -1);
            int v = x.variable(0);
            int w = x.variable(1);
            int zero = x.make(0, 0, 0, 0);
            int next = x.make(1, w, 0, 0);
            int[][] rows = {{zero, w}, {v, zero}, {v, next}};
            x.clause(0, rows[0][order[0]], rows[0][order[1]], 0, zero);
            x.clause(0, rows[1][order[0]], rows[1][order[1]], 0, zero);
            checks.due("promise 8: next and next are left out", 3, x::check);
            x.clause(0, rows[2][order[0]], rows[2][order[1]], 0, zero);
            checks.due("promise 8: next is covered by looking elsewhere", 0, x::check);
        }
    }

    /** Patterns may look at the parts: zero, one and what is more than one. */
    private static void coveredInside() {
        SureFunctions x = Programs.numbers();
        x.function(0, 0, -1, -1);
        int zero = x.make(0, 0, 0, 0);
        int one = x.make(1, zero, 0, 0);
        int more = Programs.wrapped(x, x.variable(0), 2);
        x.clause(0, one, 0, 0, zero);
        checks.due("promise 8: one is covered", 3, x::check);
        x.clause(0, zero, 0, 0, zero);
        checks.due("promise 8: zero and one are covered", 3, x::check);
        x.clause(0, more, 0, 0, zero);
        checks.due("promise 8: zero, one and more are covered", 0, x::check);
        SureFunctions y = Programs.numbers();
        y.function(0, 0, -1, -1);
        zero = y.make(0, 0, 0, 0);
        y.clause(0, zero, 0, 0, zero);
        y.clause(0, Programs.wrapped(y, y.variable(0), 2), 0, 0, zero);
        checks.due("promise 8: one is left out", 3, y::check);
    }

    /** Each part's constructors are those of its own type: type 0 has one of them, type 1 two, type 2 a triple. */
    private static void coveredInPartsOfSeveralTypes() {
        int[][] types = {{0, 1, 1}, {1, 0, 1}, {1, 1, 0}, {1, 1, 1}};
        for (int[] type : types) {
            for (int left = -1; left < 3; left++) {
                SureFunctions x = new SureFunctions();
                x.constructor(0, -1, -1, -1);
                x.constructor(1, -1, -1, -1);
                x.constructor(1, -1, -1, -1);
                x.constructor(2, type[0], type[1], type[2]);
                x.function(0, 2, -1, -1);
                int[] of = {x.make(0, 0, 0, 0), x.make(1, 0, 0, 0)};
                int other = x.make(2, 0, 0, 0);
                int[] v = {x.variable(0), x.variable(1), x.variable(2)};
                x.clause(0, x.make(3, of[type[0]], of[type[1]], of[type[2]]), 0, 0, of[0]);
                boolean all = true;
                for (int place = 0; place < 3; place++) {
                    if (type[place] == 1 && place != left) {
                        int[] p = v.clone();
                        p[place] = other;
                        x.clause(0, x.make(3, p[0], p[1], p[2]), 0, 0, of[0]);
                    }
                    all &= type[place] == 0 || place != left;
                }
                checks.due("promise 8: the other in part " + left + " is left out", all ? 0 : 3, x::check);
            }
        }
    }

    /** Where there is one constructor alone, a pattern that names it leaves nothing out. */
    private static void coveredByTheOnlyConstructor() {
        SureFunctions x = Programs.numbers();
        x.constructor(1, 0, 0, -1);
        x.function(0, 1, -1, -1);
        int v = x.variable(0);
        x.clause(0, x.make(2, v, x.variable(1), 0), 0, 0, v);
        checks.due("promise 8: the only constructor", 0, x::check);
        x.constructor(1, -1, -1, -1);
        checks.due("promise 8: no longer the only one", 3, x::check);
    }

    /** "for each function" */
    private static void coveredForEachFunction() {
        for (int left = 0; left <= 6; left++) {
            SureFunctions x = Programs.numbers();
            int v = x.variable(0);
            for (int f = 0; f < 6; f++) {
                x.function(0, 0, -1, -1);
                if (f != left) {
                    x.clause(f, v, 0, 0, v);
                }
            }
            checks.due("promise 8: function " + left + " has no clause", left < 6 ? 3 : 0, x::check);
        }
    }

    /** Eight constructors, and six clauses: five constructors and all others. */
    private static void coveredByEight() {
        SureFunctions x = new SureFunctions();
        for (int c = 0; c < 8; c++) {
            x.constructor(0, -1, -1, -1);
            x.make(c, 0, 0, 0);
        }
        x.function(0, 0, -1, -1);
        for (int c = 3; c < 8; c++) {
            x.clause(0, c, 0, 0, 0);
        }
        checks.due("promise 8: five of eight", 3, x::check);
        x.clause(0, x.variable(0), 0, 0, 0);
        checks.due("promise 8: five of eight, and the others", 0, x::check);
    }

    /** Five clauses look at one part each; what they leave is covered by a sixth that looks at the very last part. */
    private static void coveredByTheLastOfSix() {
        SureFunctions x = new SureFunctions();
        x.constructor(0, -1, -1, -1);
        x.constructor(0, -1, -1, -1);
        x.constructor(1, 0, 0, 2);
        x.constructor(2, -1, -1, -1);
        x.function(0, 1, 1, 1);
        int[] v = new int[8];
        for (int i = 0; i < 8; i++) {
            v[i] = x.variable(i);
        }
        int zero = x.make(0, 0, 0, 0);
        int only = x.make(3, 0, 0, 0);
        int first = x.make(2, zero, v[0], v[1]);
        int second = x.make(2, v[0], zero, v[1]);
        x.clause(0, first, v[2], v[3], zero);
        x.clause(0, second, v[2], v[3], zero);
        x.clause(0, v[2], first, v[3], zero);
        x.clause(0, v[2], second, v[3], zero);
        x.clause(0, v[2], v[3], first, zero);
        checks.due("promise 8: five parts looked at", 3, x::check);
        x.clause(0, x.make(2, v[0], v[1], v[2]), x.make(2, v[3], v[4], v[5]), x.make(2, v[6], v[7], only), zero);
        checks.due("promise 8: five parts looked at, and the very last", 0, x::check);
    }

    /** A clause that names the constructors of three arguments and of all their parts, each the only one there is. */
    private static void coveredBySpellingOutAll() {
        SureFunctions x = new SureFunctions();
        x.constructor(0, -1, -1, -1);
        x.constructor(1, 0, 0, 0);
        x.function(0, 1, 1, 1);
        int only = x.make(0, 0, 0, 0);
        int all = x.make(1, only, only, only);
        x.clause(0, all, all, all, only);
        checks.due("promise 8: all that there is, spelled out", 0, x::check);
        x.constructor(0, -1, -1, -1);
        checks.due("promise 8: no longer all that there is", 3, x::check);
    }

    /** Three arguments with three parts of two constructors: the clauses miss one row of all these parts, or none. */
    private static void coveredInTwelvePlaces() {
        for (int place = 0; place < 3; place++) {
            SureFunctions x = new SureFunctions();
            x.constructor(0, -1, -1, -1);
            x.constructor(0, -1, -1, -1);
            x.constructor(1, 0, 0, 0);
            x.function(0, 1, 1, 1);
            int[] v = new int[8];
            for (int i = 0; i < 8; i++) {
                v[i] = x.variable(i);
            }
            int no = x.make(0, 0, 0, 0);
            int yes = x.make(1, 0, 0, 0);
            int anyNo = x.make(2, v[0], v[1], no);
            int noAny = x.make(2, no, v[0], v[1]);
            int anyNoAny = x.make(2, v[0], no, v[1]);
            int allYes = x.make(2, yes, yes, yes);
            x.clause(0, anyNo, v[3], v[4], no);
            x.clause(0, v[3], noAny, v[4], no);
            x.clause(0, v[3], v[4], anyNoAny, no);
            x.clause(0, x.make(2, v[0], v[1], yes), x.make(2, yes, v[2], v[3]), x.make(2, v[4], yes, no), no);
            x.clause(0, x.make(2, v[0], v[1], yes), x.make(2, yes, v[2], v[3]), x.make(2, no, yes, v[4]), no);
            checks.due("promise 8: what is yes in all that is asked is left", 3, x::check);
            int[] p = {v[3], v[4], v[5]};
            p[place] = place == 2 ? x.make(2, yes, v[0], yes) : place == 1 ? x.make(2, yes, v[0], v[1]) : allYes;
            x.clause(0, p[0], p[1], p[2], yes);
            checks.due("promise 8: and covered by place " + place, place == 0 ? 3 : 0, x::check);
        }
    }

    /** "the first that isn't so is what is wrong" */
    private static void firstWrong() {
        SureFunctions x = Programs.numbers();
        x.function(0, 0, -1, -1);
        x.constructor(1, 1, -1, -1);
        int v = x.variable(0);
        x.clause(0, x.make(2, v, 0, 0), 0, 0, x.call(0, v, 0, 0));
        checks.due("promise 8: all four are wrong", 1, x::check);
        x.constructor(1, -1, -1, -1);
        checks.due("promise 8: the last three are wrong", 2, x::check);
        SureFunctions y = Programs.numbers();
        y.function(0, 0, -1, -1);
        int w = y.variable(0);
        int next = y.make(1, w, 0, 0);
        y.clause(0, next, 0, 0, y.call(0, next, 0, 0));
        checks.due("promise 8: the last two are wrong", 3, y::check);
        y.clause(0, w, 0, 0, w);
        checks.due("promise 8: the last is wrong", 4, y::check);
        checks.due("promise 14: checked and wrong", 0, () -> y.count(5));
    }
}
