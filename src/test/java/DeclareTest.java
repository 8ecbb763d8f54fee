/** Promises 1 to 7: a new object, constructors, functions, terms and clauses. */
public final class DeclareTest {
    private static final Checks checks = new Checks();

    public static void main(String[] args) {
        newObject();
        constructors();
        functions();
        variables();
        madeTerms();
        heightAndSize();
        calls();
        clauses();
        patterns();
        clauseLimits();
        throwingChangesNothing();
        checks.end();
    }

    private static void newObject() {
        SureFunctions x = new SureFunctions();
        for (int what = 0; what <= 5; what++) {
            int w = what;
            checks.due("promise 1: count(" + w + ") of a new object", 0, () -> x.count(w));
        }
        checks.due("promise 1: graphs()", 0, x::graphs);
        checks.index("promise 1: answer(0)", () -> x.answer(0));
        checks.state("promise 1: run without a check", () -> x.run(0, 0, 0, 0));
        checks.argument("promise 1: arc without clauses", () -> x.arc(0, 0, 0, 0));
        checks.due("promise 1: isValue without terms", x.isValue(0, 0), false);
    }

    private static void constructors() {
        SureFunctions x = new SureFunctions();
        checks.argument("promise 2: type -1", () -> x.constructor(-1, -1, 0, 0));
        checks.argument("promise 2: type 3", () -> x.constructor(3, -1, 0, 0));
        checks.argument("promise 2: first part 3", () -> x.constructor(0, 3, -1, -1));
        checks.argument("promise 2: first part -2", () -> x.constructor(0, -2, -1, -1));
        checks.argument("promise 2: second part 3", () -> x.constructor(0, 0, 3, -1));
        checks.argument("promise 2: third part -2", () -> x.constructor(0, 0, 0, -2));
        checks.argument("promise 2: great numbers", () -> x.constructor(Integer.MAX_VALUE, 0, 0, 0));
        checks.due("promise 2: none after the throws", 0, () -> x.count(1));
        checks.due("promise 2: behind a first -1", 0, () -> x.constructor(0, -1, 77, -77));
        checks.due("promise 2: behind a second -1", 1, () -> x.constructor(1, 0, -1, -77));
        checks.due("promise 2: two parts", 2, () -> x.constructor(2, 0, 1, -1));
        checks.due("promise 2: three parts", 3, () -> x.constructor(2, 0, 1, 2));
        for (int i = 4; i < 8; i++) {
            checks.due("promise 2: constructor " + i, i, () -> x.constructor(0, -1, 0, 0));
        }
        checks.state("promise 2: a ninth", () -> x.constructor(0, -1, 0, 0));
        checks.argument("promise 2: a ninth of no type", () -> x.constructor(0, 3, 0, 0));
        checks.due("promise 2: eight", 8, () -> x.count(1));
    }

    private static void functions() {
        SureFunctions x = new SureFunctions();
        checks.argument("promise 3: type -1", () -> x.function(-1, 0, 0, 0));
        checks.argument("promise 3: argument 3", () -> x.function(0, 0, 0, 3));
        checks.argument("promise 3: argument -2", () -> x.function(0, -2, 0, 0));
        checks.due("promise 3: behind -1", 0, () -> x.function(2, -1, 9, 9));
        for (int i = 1; i < 6; i++) {
            checks.due("promise 3: function " + i, i, () -> x.function(0, 1, 2, 0));
        }
        checks.state("promise 3: a seventh", () -> x.function(0, -1, 0, 0));
        checks.argument("promise 3: a seventh of no type", () -> x.function(5, -1, 0, 0));
        checks.due("promise 3: six", 6, () -> x.count(2));
    }

    private static void variables() {
        SureFunctions x = new SureFunctions();
        checks.argument("promise 4: -1", () -> x.variable(-1));
        checks.argument("promise 4: 8", () -> x.variable(8));
        checks.due("promise 4: 0", 0, () -> x.variable(0));
        checks.due("promise 4: 0 again is a new one", 1, () -> x.variable(0));
        for (int i = 2; i < 100; i++) {
            int v = i % 8;
            checks.due("promise 4: term " + i, i, () -> x.variable(v));
        }
        checks.state("promise 4: the 101st", () -> x.variable(7));
        checks.argument("promise 4: no variable, and full", () -> x.variable(8));
        x.constructor(0, -1, 0, 0);
        x.function(0, -1, 0, 0);
        checks.state("promise 5: the 101st", () -> x.make(0, 0, 0, 0));
        checks.argument("promise 5: no constructor, and full", () -> x.make(1, 0, 0, 0));
        checks.state("promise 6: the 101st", () -> x.call(0, 0, 0, 0));
        checks.argument("promise 6: no function, and full", () -> x.call(-1, 0, 0, 0));
        checks.due("promise 4: a hundred", 100, () -> x.count(3));
    }

    private static void madeTerms() {
        SureFunctions x = new SureFunctions();
        x.constructor(0, -1, 0, 0);
        x.constructor(0, 0, -1, 0);
        x.constructor(0, 0, 0, 0);
        checks.argument("promise 5: constructor -1", () -> x.make(-1, 0, 0, 0));
        checks.argument("promise 5: constructor 3", () -> x.make(3, 0, 0, 0));
        checks.argument("promise 5: no part yet", () -> x.make(1, 0, 0, 0));
        checks.due("promise 5: no parts are looked at", 0, () -> x.make(0, -5, 99, 7));
        checks.due("promise 5: one part is looked at", 1, () -> x.make(1, 0, -1, 500));
        checks.argument("promise 5: part -1", () -> x.make(1, -1, 0, 0));
        checks.argument("promise 5: third part 2", () -> x.make(2, 0, 1, 2));
        checks.due("promise 5: three parts", 2, () -> x.make(2, 0, 1, 1));
        checks.due("promise 5: three terms", 3, () -> x.count(3));
    }

    private static void heightAndSize() {
        SureFunctions x = new SureFunctions();
        x.constructor(0, -1, 0, 0);
        x.constructor(0, 0, -1, 0);
        x.constructor(0, 0, 0, 0);
        x.function(0, 0, -1, 0);
        x.variable(0);
        for (int height = 1; height <= 6; height++) {
            int below = height - 1;
            checks.due("promise 5: height " + height + " over a variable", height, () -> x.make(1, below, 0, 0));
        }
        checks.argument("promise 5: height 7", () -> x.make(1, 6, 0, 0));
        checks.argument("promise 6: height 7", () -> x.call(0, 6, 0, 0));
        checks.argument("promise 5: the third part too high", () -> x.make(2, 0, 0, 6));
        checks.due("promise 6: height 6", 7, () -> x.call(0, 5, 0, 0));
        int leaf = x.make(0, 0, 0, 0);
        int four = x.make(2, leaf, leaf, leaf);
        int thirteen = x.make(2, four, four, four);
        int unaryTwo = x.make(1, leaf, 0, 0);
        int fourteen = x.make(1, thirteen, 0, 0);
        int five = x.make(2, leaf, leaf, unaryTwo);
        checks.due("promise 5: size 40", 14, () -> x.make(2, thirteen, thirteen, thirteen));
        checks.argument("promise 5: size 41", () -> x.make(2, thirteen, thirteen, fourteen));
        checks.argument("promise 5: size 41 over 40", () -> x.make(1, 14, 0, 0));
        checks.argument("promise 6: size 41 over 40", () -> x.call(0, 14, 0, 0));
        checks.due("promise 5: size 32", 15, () -> x.make(2, thirteen, thirteen, five));
    }

    private static void calls() {
        SureFunctions x = new SureFunctions();
        x.function(0, -1, 0, 0);
        x.function(0, 1, 2, -1);
        checks.due("promise 6: no arguments", 0, () -> x.call(0, 9, 9, 9));
        checks.due("promise 6: two arguments", 1, () -> x.call(1, 0, 0, 9));
        checks.argument("promise 6: no such argument", () -> x.call(1, 0, 2, 0));
        checks.argument("promise 6: function 2", () -> x.call(2, 0, 0, 0));
        checks.argument("promise 6: function -1", () -> x.call(-1, 0, 0, 0));
    }

    private static void clauses() {
        SureFunctions x = new SureFunctions();
        x.constructor(0, -1, 0, 0);
        x.constructor(0, 0, 0, -1);
        x.function(0, 0, 0, -1);
        x.function(0, -1, 0, 0);
        int v = x.variable(0);
        int w = x.variable(1);
        int zero = x.make(0, 0, 0, 0);
        int vw = x.make(1, v, w, 0);
        int vv = x.make(1, v, v, 0);
        int called = x.call(1, 0, 0, 0);
        int overCalled = x.make(1, zero, called, 0);
        checks.argument("promise 7: function -1", () -> x.clause(-1, v, w, 0, v));
        checks.argument("promise 7: function 2", () -> x.clause(2, v, w, 0, v));
        checks.argument("promise 7: pattern -1", () -> x.clause(0, -1, w, 0, w));
        checks.argument("promise 7: pattern 99", () -> x.clause(0, v, 99, 0, v));
        checks.argument("promise 7: body 99", () -> x.clause(0, v, w, 0, 99));
        checks.argument("promise 7: body -1", () -> x.clause(0, v, w, 0, -1));
        checks.argument("promise 7: a variable twice in one", () -> x.clause(0, vv, w, 0, w));
        checks.argument("promise 7: a variable twice in both", () -> x.clause(0, v, vw, 0, w));
        checks.argument("promise 7: the same pattern twice", () -> x.clause(0, v, v, 0, v));
        checks.argument("promise 7: a pattern with a call", () -> x.clause(0, called, v, 0, v));
        checks.argument("promise 7: a pattern with a call inside", () -> x.clause(0, v, overCalled, 0, v));
        checks.argument("promise 7: another variable in the body", () -> x.clause(0, v, zero, 0, vw));
        checks.argument("promise 7: a variable without patterns", () -> x.clause(1, v, v, v, v));
        checks.due("promise 7: the first", 1, () -> x.clause(0, v, w, 99, vv));
        checks.due("promise 7: constants twice", 2, () -> x.clause(0, zero, zero, -1, overCalled));
        checks.due("promise 7: no patterns", 3, () -> x.clause(1, -1, -1, -1, zero));
        checks.due("promise 7: a body with a variable twice", 4, () -> x.clause(0, vw, zero, 0, vv));
        checks.due("promise 7: four", 4, () -> x.count(4));
    }

    private static void patterns() {
        SureFunctions x = new SureFunctions();
        x.constructor(0, -1, 0, 0);
        x.constructor(0, 0, -1, 0);
        x.constructor(0, 0, 0, 0);
        x.function(0, 0, -1, 0);
        int[] v = new int[8];
        for (int i = 0; i < 8; i++) {
            v[i] = x.variable(i);
        }
        int zero = x.make(0, 0, 0, 0);
        int one = x.make(1, v[0], 0, 0);
        int two = x.make(1, one, 0, 0);
        int three = x.make(1, two, 0, 0);
        int oneZero = x.make(1, zero, 0, 0);
        int twoZero = x.make(1, oneZero, 0, 0);
        int triple = x.make(2, v[0], v[1], v[2]);
        int single = x.make(1, v[3], 0, 0);
        int eight = x.make(2, triple, single, v[4]);
        int nine = x.make(2, triple, single, x.make(1, v[4], 0, 0));
        checks.due("promise 7: height 2 over a variable", 1, () -> x.clause(0, two, 0, 0, zero));
        checks.argument("promise 7: height 3 over a variable", () -> x.clause(0, three, 0, 0, zero));
        checks.due("promise 7: height 2 over a constant", 2, () -> x.clause(0, oneZero, 0, 0, zero));
        checks.argument("promise 7: height 3 over a constant", () -> x.clause(0, twoZero, 0, 0, zero));
        checks.due("promise 7: size 8", 3, () -> x.clause(0, eight, 0, 0, zero));
        checks.argument("promise 7: size 9", () -> x.clause(0, nine, 0, 0, zero));
    }

    private static void clauseLimits() {
        SureFunctions x = new SureFunctions();
        for (int f = 0; f < 6; f++) {
            x.function(0, 0, -1, 0);
        }
        int v = x.variable(3);
        for (int i = 0; i < 6; i++) {
            checks.due("promise 7: clause " + i + " of function 2", i + 1, () -> x.clause(2, v, 0, 0, v));
        }
        checks.state("promise 7: a seventh of one function", () -> x.clause(2, v, 0, 0, v));
        checks.argument("promise 7: a seventh with no body", () -> x.clause(2, v, 0, 0, 7));
        for (int i = 6; i < 24; i++) {
            int f = new int[] {0, 1, 3, 4}[(i - 6) % 4];
            int want = i + 1;
            checks.due("promise 7: clause " + i, want, () -> x.clause(f, v, 0, 0, v));
        }
        checks.state("promise 7: a 25th", () -> x.clause(5, v, 0, 0, v));
        checks.argument("promise 7: a 25th of no function", () -> x.clause(6, v, 0, 0, v));
        checks.due("promise 7: 24", 24, () -> x.count(4));
    }

    private static void throwingChangesNothing() {
        SureFunctions x = new SureFunctions();
        x.constructor(0, -1, 0, 0);
        x.function(0, -1, 0, 0);
        x.clause(0, 0, 0, 0, x.make(0, 0, 0, 0));
        x.check();
        x.run(0, 0, 0, 0);
        checks.argument("a constructor that throws", () -> x.constructor(9, 0, 0, 0));
        checks.argument("a function that throws", () -> x.function(9, 0, 0, 0));
        checks.argument("a clause that throws", () -> x.clause(9, 0, 0, 0, 0));
        checks.argument("a term that throws", () -> x.make(9, 0, 0, 0));
        checks.due("still checked", 1, () -> x.count(5));
        checks.due("still run", 1, () -> x.count(0));
        checks.due("still one term", 1, () -> x.count(3));
        checks.due("a term leaves it checked", 1, () -> x.variable(0));
        checks.due("still checked after a term", 1, () -> x.count(5));
    }
}
