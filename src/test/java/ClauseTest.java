import java.util.Arrays;

/** Promise 7 and the sentences on patterns and clauses. */
public final class ClauseTest {
    private static final int V = 0;
    private static final int ZERO = 8;
    private static final int CALL = 9;

    private static final Checks checks = new Checks();

    public static void main(String[] args) {
        noSuchFunction();
        noSuchPattern();
        noSuchBody();
        whatItDoesNotNeed();
        patternWithoutCalls();
        patternWithoutVariableTwice();
        patternHeight();
        patternSize();
        highAndGreatAtOnce();
        noVariableTwiceInAll();
        allEightVariables();
        bodyVariables();
        anyBody();
        sixOfOne();
        twentyFourInAll();
        wrongAndFull();
        checks.end();
    }

    /** Terms 0 .. 7 are the variables, 8 is constructor 0, 9 a call without arguments. */
    private static SureFunctions start() {
        SureFunctions x = Programs.allWidths();
        for (int v = 0; v < 8; v++) {
            x.variable(v);
        }
        x.make(0, 0, 0, 0);
        x.call(0, 0, 0, 0);
        return x;
    }

    /** A clause of the function with three arguments, with the pattern in one place and variables 6 and 7 in others. */
    private static int placed(SureFunctions x, int place, int pattern, int body) {
        int[] p = {6, place == 0 ? 6 : 7, 7};
        p[place] = pattern;
        return x.clause(3, p[0], p[1], p[2], body);
    }

    /** "IllegalArgumentException when there is no such function" */
    private static void noSuchFunction() {
        Edge edge = new Edge(checks, ClauseTest::start);
        edge.allowed("promise 7: function 0", 1, x -> x.clause(0, 0, 0, 0, ZERO));
        edge.allowed("promise 7: function 3", 1, x -> x.clause(3, 0, 1, 2, ZERO));
        edge.argument("promise 7: function -1", x -> x.clause(-1, 0, 1, 2, ZERO));
        edge.argument("promise 7: function 4", x -> x.clause(4, 0, 1, 2, ZERO));
        for (int f : Programs.FAR) {
            edge.argument("promise 7: a far function", x -> x.clause(f, 0, 1, 2, ZERO));
        }
    }

    /** "or term": patterns, in each place that is needed. */
    private static void noSuchPattern() {
        Edge edge = new Edge(checks, ClauseTest::start);
        for (int n = 0; n < 3; n++) {
            int place = n;
            edge.allowed("promise 7: the first term in place " + n, 1, x -> placed(x, place, 0, ZERO));
            for (int pattern : new int[] {-1, 10, 100, Programs.FAR[0], Programs.FAR[1]}) {
                edge.argument("promise 7: pattern " + pattern + " in place " + n, x -> placed(x, place, pattern, ZERO));
            }
        }
        edge.argument("promise 7: no such pattern of one", x -> x.clause(1, 10, 0, 0, ZERO));
        edge.argument("promise 7: no such second pattern of two", x -> x.clause(2, 0, 10, 0, ZERO));
    }

    /** "or term": the body. */
    private static void noSuchBody() {
        Edge edge = new Edge(checks, ClauseTest::start);
        edge.allowed("promise 7: the first term as body", 1, x -> x.clause(1, 0, 0, 0, 0));
        edge.allowed("promise 7: the last term as body", 1, x -> x.clause(1, 0, 0, 0, CALL));
        for (int body : new int[] {-1, 10, 100, Programs.FAR[0], Programs.FAR[1]}) {
            edge.argument("promise 7: body " + body, x -> x.clause(1, 0, 0, 0, body));
            edge.argument("promise 7: body " + body + " without patterns", x -> x.clause(0, 0, 0, 0, body));
        }
    }

    /** "(what it doesn't need is not looked at)" */
    private static void whatItDoesNotNeed() {
        Edge edge = new Edge(checks, ClauseTest::start);
        for (int junk : new int[] {-1, 10, 100, CALL, V, Programs.FAR[0], Programs.FAR[1]}) {
            edge.allowed("promise 7: none needed, " + junk, 1, x -> x.clause(0, junk, junk, junk, ZERO));
            edge.allowed("promise 7: one needed, " + junk, 1, x -> x.clause(1, V, junk, junk, V));
            edge.allowed("promise 7: two needed, " + junk, 1, x -> x.clause(2, V, 1, junk, V));
        }
        edge.argument("promise 7: a variable that stands where nothing is needed", x -> x.clause(1, V, 1, 2, 1));
        edge.argument("promise 7: a variable that stands where none is needed", x -> x.clause(0, V, V, V, V));
    }

    /** "A term is a PATTERN if it has no calls" */
    private static void patternWithoutCalls() {
        for (int n = 0; n < 3; n++) {
            int place = n;
            Edge edge = new Edge(checks, () -> {
                SureFunctions x = start();
                x.call(1, V, 0, 0);
                x.make(1, CALL, 0, 0);
                x.make(3, 0, 1, CALL);
                x.make(3, 0, 1, ZERO);
                return x;
            });
            edge.allowed("promise 7: a constant in place " + n, 1, x -> placed(x, place, ZERO, ZERO));
            edge.allowed("promise 7: no call inside, in place " + n, 1, x -> placed(x, place, 13, ZERO));
            edge.argument("promise 7: a call in place " + n, x -> placed(x, place, CALL, ZERO));
            edge.argument("promise 7: a call of a variable in place " + n, x -> placed(x, place, 10, ZERO));
            edge.argument("promise 7: a call inside, in place " + n, x -> placed(x, place, 11, ZERO));
            edge.argument("promise 7: a call as the last part, in place " + n, x -> placed(x, place, 12, ZERO));
        }
    }

    /** "no variable twice" */
    private static void patternWithoutVariableTwice() {
        for (int n = 0; n < 3; n++) {
            int place = n;
            Edge edge = new Edge(checks, () -> {
                SureFunctions x = start();
                x.make(2, 0, 1, 0);
                x.make(2, 0, x.variable(0), 0);
                x.make(3, 1, 0, 0);
                x.make(3, 0, 1, 0);
                x.make(2, x.make(1, 3, 0, 0), x.make(1, 3, 0, 0), 0);
                x.make(2, ZERO, ZERO, 0);
                return x;
            });
            edge.allowed("promise 7: two variables in place " + n, 1, x -> placed(x, place, 10, ZERO));
            edge.allowed("promise 7: a constant twice in place " + n, 1, x -> placed(x, place, 18, ZERO));
            edge.argument("promise 7: a variable twice in place " + n, x -> placed(x, place, 12, ZERO));
            edge.argument("promise 7: twice behind another in place " + n, x -> placed(x, place, 13, ZERO));
            edge.argument("promise 7: twice round another in place " + n, x -> placed(x, place, 14, ZERO));
            edge.argument("promise 7: twice inside of parts in place " + n, x -> placed(x, place, 17, ZERO));
        }
    }

    /** "a height of at most 2" */
    private static void patternHeight() {
        for (int n = 0; n < 3; n++) {
            int place = n;
            Edge edge = new Edge(checks, () -> {
                SureFunctions x = start();
                Programs.wrapped(x, 0, 3);
                Programs.wrapped(x, ZERO, 2);
                x.make(3, 1, 2, 14);
                return x;
            });
            edge.allowed("promise 7: height 0 in place " + n, 1, x -> placed(x, place, 0, ZERO));
            edge.allowed("promise 7: height 1 in place " + n, 1, x -> placed(x, place, 10, ZERO));
            edge.allowed("promise 7: height 2 in place " + n, 1, x -> placed(x, place, 11, ZERO));
            edge.allowed("promise 7: height 2 over a constant in place " + n, 1, x -> placed(x, place, 13, ZERO));
            edge.argument("promise 7: height 3 in place " + n, x -> placed(x, place, 12, ZERO));
            edge.argument("promise 7: height 3 over a constant in place " + n, x -> placed(x, place, 14, ZERO));
            edge.argument("promise 7: height 4 in place " + n, x -> placed(x, place, 15, ZERO));
        }
    }

    /** "and a size of at most 8" */
    private static void patternSize() {
        for (int n = 0; n < 3; n++) {
            int place = n;
            Edge edge = new Edge(checks, () -> {
                SureFunctions x = start();
                x.make(3, 0, 1, 2);
                x.make(1, 3, 0, 0);
                x.make(2, 3, 4, 0);
                x.make(3, 3, 4, 5);
                x.make(3, 10, 11, 5);
                x.make(3, ZERO, 10, 11);
                x.make(3, 10, 12, 5);
                x.make(3, 10, ZERO, 12);
                x.make(3, 10, 13, ZERO);
                return x;
            });
            edge.allowed("promise 7: size 8 in place " + n, 1, x -> placed(x, place, 14, ZERO));
            edge.allowed("promise 7: size 8 with a constant, in place " + n, 1, x -> placed(x, place, 15, ZERO));
            edge.argument("promise 7: size 9 in place " + n, x -> placed(x, place, 16, ZERO));
            edge.argument("promise 7: size 9 with a constant, in place " + n, x -> placed(x, place, 17, ZERO));
            edge.argument("promise 7: size 10 in place " + n, x -> placed(x, place, 18, ZERO));
        }
    }

    /** Each pattern may be as high and as great as can be, whatever the others are. */
    private static void highAndGreatAtOnce() {
        SureFunctions x = start();
        int p = x.make(3, x.make(3, 0, 1, 2), x.make(1, 3, 0, 0), ZERO);
        int q = x.make(3, ZERO, x.make(2, 4, 5, 0), x.make(2, 6, 7, 0));
        int r = x.make(3, ZERO, ZERO, ZERO);
        checks.due("promise 7: size 8 twice, and one more", 1, () -> x.clause(3, p, q, r, 7));
    }

    /** "a pattern for each argument, in which all together no variable comes twice" */
    private static void noVariableTwiceInAll() {
        Edge edge = new Edge(checks, () -> {
            SureFunctions x = start();
            x.make(2, 0, 1, 0);
            x.make(2, 2, 1, 0);
            x.make(1, x.make(1, 5, 0, 0), 0, 0);
            x.variable(5);
            return x;
        });
        edge.allowed("promise 7: three variables", 1, x -> x.clause(3, 0, 1, 2, 1));
        edge.argument("promise 7: the same in places 0 and 1", x -> x.clause(3, 0, 0, 2, 2));
        edge.argument("promise 7: the same in places 0 and 2", x -> x.clause(3, 0, 1, 0, 1));
        edge.argument("promise 7: the same in places 1 and 2", x -> x.clause(3, 0, 1, 1, 0));
        edge.argument("promise 7: the same inside and outside", x -> x.clause(2, 10, 1, 0, 0));
        edge.argument("promise 7: the same inside of both", x -> x.clause(3, 10, 3, 11, 0));
        edge.argument("promise 7: another term of the same variable", x -> x.clause(3, 13, 0, 14, 0));
        edge.allowed("promise 7: the same constant in all", 1, x -> x.clause(3, ZERO, ZERO, ZERO, ZERO));
    }

    private static void allEightVariables() {
        SureFunctions x = start();
        int p = x.make(2, 0, 1, 0);
        int q = x.make(3, 2, 3, 4);
        int r = x.make(3, 5, 6, 7);
        int all = x.call(3, r, p, q);
        checks.due("promise 7: all eight variables", 1, () -> x.clause(3, p, q, r, all));
        checks.argument("promise 7: seven, and the body has all", () -> x.clause(3, 0, q, r, all));
    }

    /** "a BODY, whose variables are among theirs"; "or the body has another variable" */
    private static void bodyVariables() {
        Edge edge = new Edge(checks, () -> {
            SureFunctions x = start();
            x.make(3, 0, 1, 2);
            x.call(3, 2, 1, 0);
            x.make(2, ZERO, 11, 0);
            x.make(1, 4, 0, 0);
            x.variable(0);
            return x;
        });
        for (int place = 0; place < 3; place++) {
            int body = place;
            edge.allowed("promise 7: the variable of place " + place, 1, x -> x.clause(3, 0, 1, 2, body));
        }
        edge.allowed("promise 7: all of them, in a call inside", 1, x -> x.clause(3, 0, 1, 2, 12));
        edge.allowed("promise 7: the same variable by another term", 1, x -> x.clause(1, 0, 0, 0, 14));
        edge.allowed("promise 7: a variable inside of a pattern", 1, x -> x.clause(1, 13, 0, 0, 4));
        edge.allowed("promise 7: none of them", 1, x -> x.clause(3, 0, 1, 2, ZERO));
        edge.argument("promise 7: another variable", x -> x.clause(3, 0, 1, 2, 3));
        edge.argument("promise 7: another variable inside", x -> x.clause(3, 0, 1, 3, 10));
        edge.argument("promise 7: another variable in a call inside", x -> x.clause(3, 3, 1, 2, 12));
        edge.argument("promise 7: a variable over constants", x -> x.clause(3, ZERO, ZERO, ZERO, 0));
        edge.argument("promise 7: a variable without patterns", x -> x.clause(0, 0, 0, 0, 0));
    }

    /** A body may have calls, variables twice, and all the height and size that a term may have. */
    private static void anyBody() {
        Edge edge = new Edge(checks, () -> {
            SureFunctions x = start();
            x.make(3, 0, 0, 0);
            x.call(3, 10, 10, 10);
            x.make(3, 11, 11, 11);
            Programs.wrapped(x, 0, 6);
            return x;
        });
        edge.allowed("promise 7: a body of size 40", 1, x -> x.clause(1, 0, 0, 0, 12));
        edge.allowed("promise 7: a body of height 6", 1, x -> x.clause(1, 0, 0, 0, 18));
    }

    private static SureFunctions withClauses(int... functions) {
        SureFunctions x = start();
        x.function(0, -1, -1, -1);
        x.function(0, 0, -1, -1);
        for (int f : functions) {
            x.clause(f, 0, 1, 2, ZERO);
        }
        return x;
    }

    /** "at most six to each"; "IllegalStateException when it has six" */
    private static void sixOfOne() {
        for (int n = 0; n < 6; n++) {
            int f = n;
            Edge five = new Edge(checks, () -> withClauses(f, f, f, f, f));
            five.allowed("promise 7: the sixth of function " + n, 6, x -> x.clause(f, 0, 1, 2, ZERO));
            Edge six = new Edge(checks, () -> withClauses(f, f, f, f, f, f));
            six.state("promise 7: the seventh of function " + n, x -> x.clause(f, 0, 1, 2, ZERO));
            int other = (f + 1) % 6;
            six.allowed("promise 7: a first beside six of function " + n, 7, x -> x.clause(other, 0, 1, 2, ZERO));
        }
        Edge mixed = new Edge(checks, () -> withClauses(1, 2, 1, 3, 1, 1, 2, 1, 1));
        mixed.state("promise 7: the seventh of one, between others", x -> x.clause(1, 0, 0, 0, ZERO));
        mixed.allowed("promise 7: how many there are in all", 10, x -> x.clause(2, 0, 1, 0, ZERO));
    }

    /** "24 in all"; "or there are 24" */
    private static void twentyFourInAll() {
        int[] most = {0, 1, 2, 3, 4, 5, 0, 1, 2, 3, 4, 5, 0, 1, 2, 3, 4, 5, 0, 1, 2, 3, 4};
        Edge last = new Edge(checks, () -> withClauses(most));
        int[] all = Arrays.copyOf(most, 24);
        all[23] = 5;
        Edge full = new Edge(checks, () -> withClauses(all));
        for (int n = 0; n < 6; n++) {
            int f = n;
            last.allowed("promise 7: the 24th, of function " + n, 24, x -> x.clause(f, 0, 1, 2, ZERO));
            full.state("promise 7: the 25th, the fifth of function " + n, x -> x.clause(f, 0, 1, 2, ZERO));
        }
        int[] sixOfFour = {0, 0, 0, 0, 0, 0, 1, 1, 1, 1, 1, 1, 2, 2, 2, 2, 2, 2, 3, 3, 3, 3, 3, 3};
        Edge none = new Edge(checks, () -> withClauses(sixOfFour));
        none.state("promise 7: the 25th, the first of its function", x -> x.clause(5, 0, 0, 0, ZERO));
        none.state("promise 7: the 25th, the seventh of its function", x -> x.clause(3, 0, 1, 2, ZERO));
    }

    /** "if several exceptions are due that one is thrown which the call names first" */
    private static void wrongAndFull() {
        Edge six = new Edge(checks, () -> withClauses(3, 3, 3, 3, 3, 3));
        wrongOnes(six, "six");
        int[] others = {0, 0, 0, 0, 0, 0, 1, 1, 1, 1, 1, 1, 2, 2, 2, 2, 2, 2, 4, 4, 4, 4, 4, 4};
        Edge all = new Edge(checks, () -> withClauses(others));
        wrongOnes(all, "24");
    }

    private static void wrongOnes(Edge edge, String many) {
        edge.argument("promise 7: " + many + ", and no such function", x -> x.clause(6, 0, 1, 2, ZERO));
        edge.argument("promise 7: " + many + ", and function -1", x -> x.clause(-1, 0, 1, 2, ZERO));
        edge.argument("promise 7: " + many + ", and no such pattern", x -> x.clause(3, 0, 1, 10, ZERO));
        edge.argument("promise 7: " + many + ", and a pattern is none", x -> x.clause(3, 0, 1, CALL, ZERO));
        edge.argument("promise 7: " + many + ", and a variable comes twice", x -> x.clause(3, 0, 1, 0, ZERO));
        edge.argument("promise 7: " + many + ", and no such body", x -> x.clause(3, 0, 1, 2, -1));
        edge.argument("promise 7: " + many + ", and another variable", x -> x.clause(3, 0, 1, 2, 3));
        edge.state("promise 7: " + many + ", and nothing else", x -> x.clause(3, 0, 1, 2, ZERO));
    }
}
