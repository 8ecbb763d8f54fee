/** Promises 11 to 14: isValue, run, answer and count. */
public final class RunTest {
    private static final Checks checks = new Checks();

    public static void main(String[] args) {
        values();
        addition();
        firstClauseCounts();
        whatStands();
        order();
        wrongCalls();
        noArguments();
        latestRun();
        stepLimit();
        stepLimitOfOneArgument();
        sizeLimit();
        builtLimit();
        deepRun();
        counts();
        checks.end();
    }

    private static void values() {
        SureFunctions x = new SureFunctions();
        x.constructor(0, -1, 0, 0);
        x.constructor(1, 0, 1, -1);
        x.constructor(1, -1, 0, 0);
        x.function(0, -1, 0, 0);
        int zero = x.make(0, 0, 0, 0);
        int empty = x.make(2, 0, 0, 0);
        int list = x.make(1, zero, empty, 0);
        int longer = x.make(1, zero, list, 0);
        int turned = x.make(1, empty, zero, 0);
        int open = x.make(1, zero, x.variable(0), 0);
        int called = x.make(1, x.call(0, 0, 0, 0), empty, 0);
        checks.due("promise 11: a constant", x.isValue(zero, 0), true);
        checks.due("promise 11: a list", x.isValue(longer, 1), true);
        checks.due("promise 11: a list is of no other type", x.isValue(longer, 0), false);
        checks.due("promise 11: parts of the wrong types", x.isValue(turned, 1), false);
        checks.due("promise 11: a wrong part inside", x.isValue(x.make(1, zero, turned, 0), 1), false);
        checks.due("promise 11: a variable inside", x.isValue(open, 1), false);
        checks.due("promise 11: a variable", x.isValue(x.variable(0), 0), false);
        checks.due("promise 11: a call inside", x.isValue(called, 1), false);
        checks.due("promise 11: a call", x.isValue(x.call(0, 0, 0, 0), 0), false);
        checks.due("promise 11: no such term", x.isValue(x.count(3), 0), false);
        checks.due("promise 11: term -1", x.isValue(-1, 0), false);
        checks.due("promise 11: type 2 has no values", x.isValue(zero, 2), false);
        checks.due("promise 11: type 3", x.isValue(zero, 3), false);
        checks.due("promise 11: type -1", x.isValue(zero, -1), false);
    }

    private static String answerOf(SureFunctions x, int size) {
        StringBuilder text = new StringBuilder();
        for (int i = 0; i < size; i++) {
            text.append(x.answer(i));
        }
        checks.index("promise 13: behind the last", () -> x.answer(size));
        checks.index("promise 13: before the first", () -> x.answer(-1));
        return text.toString();
    }

    private static SureFunctions numbers() {
        SureFunctions x = new SureFunctions();
        x.constructor(0, -1, 0, 0);
        x.constructor(0, 0, -1, 0);
        return x;
    }

    private static void addition() {
        SureFunctions x = numbers();
        x.function(0, 0, 0, -1);
        int v = x.variable(0);
        int w = x.variable(1);
        int zero = x.make(0, 0, 0, 0);
        x.clause(0, zero, w, 0, w);
        x.clause(0, x.make(1, v, 0, 0), w, 0, x.make(1, x.call(0, v, w, 0), 0, 0));
        x.check();
        int two = x.make(1, x.make(1, zero, 0, 0), 0, 0);
        checks.due("promise 12: 2 + 2", 5, () -> x.run(0, two, two, -9));
        checks.due("promise 13: 2 + 2", answerOf(x, 5), "11110");
        checks.due("promise 14: steps of 2 + 2", 3, () -> x.count(0));
        checks.due("promise 12: 0 + 0", 1, () -> x.run(0, zero, zero, 0));
        checks.due("promise 13: 0 + 0", answerOf(x, 1), "0");
    }

    private static void firstClauseCounts() {
        SureFunctions x = numbers();
        x.function(0, 0, 0, -1);
        int v = x.variable(0);
        int w = x.variable(1);
        int zero = x.make(0, 0, 0, 0);
        int one = x.make(1, zero, 0, 0);
        int two = x.make(1, one, 0, 0);
        x.clause(0, one, v, 0, two);
        x.clause(0, v, zero, 0, one);
        x.clause(0, v, w, 0, zero);
        x.clause(0, zero, zero, 0, two);
        x.check();
        checks.due("promise 12: the first of two clauses", 3, () -> x.run(0, one, zero, 0));
        checks.due("promise 12: a pattern inside tells", 2, () -> x.run(0, two, zero, 0));
        checks.due("promise 12: the second argument tells", 1, () -> x.run(0, two, one, 0));
        checks.due("promise 12: a later clause never counts", 2, () -> x.run(0, zero, zero, 0));
    }

    /** A clause that doesn't match leaves nothing behind, and variables stand for what is in their places. */
    private static void whatStands() {
        SureFunctions x = new SureFunctions();
        for (int c = 0; c < 4; c++) {
            x.constructor(0, -1, 0, 0);
        }
        x.constructor(1, 0, 0, 0);
        x.function(1, 1, 0, 0);
        int[] v = new int[8];
        for (int i = 0; i < 8; i++) {
            v[i] = x.variable(i);
        }
        int[] c = new int[4];
        for (int i = 0; i < 4; i++) {
            c[i] = x.make(i, 0, 0, 0);
        }
        x.clause(0, x.make(4, v[2], v[1], v[0]), v[3], c[0], x.make(4, v[3], v[2], v[0]));
        x.clause(0, x.make(4, v[0], v[1], v[7]), v[2], v[3], x.make(4, v[7], v[3], v[1]));
        x.check();
        int given = x.make(4, c[1], c[2], c[3]);
        checks.due("promise 12: the first clause", 4, () -> x.run(0, given, c[2], c[0]));
        checks.due("promise 13: the first clause", answerOf(x, 4), "4213");
        checks.due("promise 12: the second clause", 4, () -> x.run(0, given, c[0], c[1]));
        checks.due("promise 13: the second clause", answerOf(x, 4), "4312");
    }

    /** The whole answer is written constructor first, then its parts from the first on, however they were made. */
    private static void order() {
        SureFunctions x = new SureFunctions();
        x.constructor(0, -1, 0, 0);
        x.constructor(0, -1, 0, 0);
        x.constructor(0, 0, 0, 0);
        x.constructor(0, 0, -1, 0);
        x.function(0, 0, 0, -1);
        x.function(0, 0, -1, 0);
        int v = x.variable(0);
        int w = x.variable(1);
        int a = x.make(0, 0, 0, 0);
        int b = x.make(1, 0, 0, 0);
        int boxed = x.call(1, w, 0, 0);
        x.clause(0, v, w, 0, x.make(2, v, x.make(2, boxed, v, b), w));
        x.clause(1, v, 0, 0, x.make(3, v, 0, 0));
        x.check();
        int given = x.make(2, a, b, b);
        checks.due("promise 12: an answer that shares parts", 16, () -> x.run(0, given, x.make(3, a, 0, 0), 0));
        checks.due("promise 13: an answer that shares parts", answerOf(x, 16), "2" + "2011" + "2" + "330" + "2011" + "1" + "30");
        checks.due("promise 14: two steps", 2, () -> x.count(0));
    }

    private static void wrongCalls() {
        SureFunctions x = new SureFunctions();
        x.constructor(0, -1, 0, 0);
        x.constructor(1, 0, -1, 0);
        x.function(0, 1, 0, -1);
        int v = x.variable(0);
        int zero = x.make(0, 0, 0, 0);
        int box = x.make(1, zero, 0, 0);
        x.clause(0, v, x.variable(1), 0, zero);
        checks.state("promise 12: unchecked", () -> x.run(0, box, zero, 0));
        checks.state("promise 12: unchecked, and no such function", () -> x.run(7, box, zero, 0));
        x.check();
        checks.argument("promise 12: function 1", () -> x.run(1, box, zero, 0));
        checks.argument("promise 12: function -1", () -> x.run(-1, box, zero, 0));
        checks.argument("promise 12: the first argument's type", () -> x.run(0, zero, zero, 0));
        checks.argument("promise 12: the second argument's type", () -> x.run(0, box, box, 0));
        checks.argument("promise 12: a variable", () -> x.run(0, box, v, 0));
        checks.argument("promise 12: no such term", () -> x.run(0, box, 99, 0));
        checks.argument("promise 12: term -1", () -> x.run(0, -1, zero, 0));
        checks.due("promise 14: none of them ran", 0, () -> x.count(0));
        checks.due("promise 12: what it doesn't need", 1, () -> x.run(0, box, zero, -77));
    }

    private static void noArguments() {
        SureFunctions x = numbers();
        x.function(0, -1, 0, 0);
        x.function(0, -1, 0, 0);
        int zero = x.make(0, 0, 0, 0);
        x.clause(0, 0, 0, 0, x.make(1, x.call(1, 0, 0, 0), 0, 0));
        x.clause(1, 0, 0, 0, zero);
        x.check();
        checks.due("promise 12: without arguments", 2, () -> x.run(0, -1, 99, 5));
        checks.due("promise 13: without arguments", answerOf(x, 2), "10");
        checks.due("promise 14: without arguments", 2, () -> x.count(0));
    }

    private static void latestRun() {
        SureFunctions x = numbers();
        x.function(0, 0, -1, 0);
        int v = x.variable(0);
        x.clause(0, v, 0, 0, x.make(1, v, 0, 0));
        x.check();
        int zero = x.make(0, 0, 0, 0);
        checks.due("promise 12: one", 2, () -> x.run(0, zero, 0, 0));
        checks.argument("promise 12: no value", () -> x.run(0, v, 0, 0));
        checks.due("promise 13: the latest that didn't throw", answerOf(x, 2), "10");
        x.constructor(0, -1, 0, 0);
        checks.state("promise 12: unchecked", () -> x.run(0, zero, 0, 0));
        checks.due("promise 13: still the latest", answerOf(x, 2), "10");
        checks.due("promise 14: still the latest", 1, () -> x.count(0));
        x.check();
        checks.due("promise 12: a new constructor", 2, () -> x.run(0, x.make(2, 0, 0, 0), 0, 0));
        checks.due("promise 13: a new constructor", answerOf(x, 2), "12");
    }

    /** Functions that answer their first argument, and call one another so often that 200 steps come exactly. */
    private static void stepLimit() {
        SureFunctions x = new SureFunctions();
        x.constructor(0, -1, 0, 0);
        x.constructor(0, -1, 0, 0);
        x.function(0, -1, 0, 0);
        x.function(0, 0, 0, 0);
        x.function(0, -1, 0, 0);
        x.function(0, -1, 0, 0);
        x.function(0, -1, 0, 0);
        x.function(0, 0, -1, 0);
        int v = x.variable(0);
        int zero = x.make(0, 0, 0, 0);
        int other = x.make(1, 0, 0, 0);
        int one = x.call(0, 0, 0, 0);
        int five = x.call(2, 0, 0, 0);
        int seventeen = x.call(3, 0, 0, 0);
        int fiftyThree = x.call(4, 0, 0, 0);
        x.clause(0, 0, 0, 0, zero);
        x.clause(1, v, x.variable(1), x.variable(2), v);
        x.clause(2, 0, 0, 0, x.call(1, one, one, one));
        x.clause(3, 0, 0, 0, x.call(1, five, five, five));
        x.clause(4, 0, 0, 0, x.call(1, seventeen, seventeen, seventeen));
        int most = x.call(1, fiftyThree, fiftyThree, fiftyThree);
        int rest = x.call(1, seventeen, one, x.call(1, one, zero, zero));
        x.clause(5, zero, 0, 0, x.call(1, most, seventeen, rest));
        x.clause(5, other, 0, 0, x.call(1, most, seventeen, x.call(1, seventeen, one, x.call(1, one, one, zero))));
        checks.due("promise 8: it ends", 0, x::check);
        checks.due("promise 12: 200 steps", 1, () -> x.run(5, zero, 0, 0));
        checks.due("promise 14: 200 steps", 200, () -> x.count(0));
        checks.due("promise 13: 200 steps", 0, () -> x.answer(0));
        checks.due("promise 12: 201 steps", 0, () -> x.run(5, other, 0, 0));
        checks.due("promise 14: ended at the 201st", 200, () -> x.count(0));
        checks.index("promise 13: ended at the 201st", () -> x.answer(0));
        checks.due("promise 12: five steps", 1, () -> x.run(2, 0, 0, 0));
        checks.due("promise 14: five steps", 5, () -> x.count(0));
    }

    /** Each function calls the one before six times on its own answers, so that a call left out would not be missed. */
    private static void stepLimitOfOneArgument() {
        SureFunctions x = numbers();
        int v = x.variable(0);
        x.function(0, 0, -1, 0);
        x.clause(0, v, 0, 0, v);
        for (int f = 1; f < 4; f++) {
            x.function(0, 0, -1, 0);
            int body = v;
            for (int i = 0; i < 6; i++) {
                body = x.call(f - 1, body, 0, 0);
            }
            x.clause(f, v, 0, 0, body);
        }
        int zero = x.make(0, 0, 0, 0);
        checks.due("promise 8: it ends", 0, x::check);
        checks.due("promise 12: 43 steps", 1, () -> x.run(2, zero, 0, 0));
        checks.due("promise 14: 43 steps", 43, () -> x.count(0));
        checks.due("promise 12: 259 steps", 0, () -> x.run(3, zero, 0, 0));
        checks.due("promise 14: 259 steps", 200, () -> x.count(0));
        checks.index("promise 13: 259 steps", () -> x.answer(0));
    }

    /** Pairs of handed values: sixty constructors are an answer, sixty-one are none. */
    private static void sizeLimit() {
        SureFunctions x = new SureFunctions();
        x.constructor(0, -1, 0, 0);
        x.constructor(0, 0, -1, 0);
        x.constructor(0, 0, 0, 0);
        x.function(0, 0, 0, -1);
        x.function(0, 0, 0, -1);
        x.function(0, 0, 0, -1);
        int v = x.variable(0);
        int w = x.variable(1);
        int zero = x.make(0, 0, 0, 0);
        int four = x.make(2, zero, zero, zero);
        int thirteen = x.make(2, four, four, four);
        int forty = x.make(2, thirteen, thirteen, thirteen);
        int seventeen = x.make(2, thirteen, zero, x.make(1, zero, 0, 0));
        int eighteen = x.make(1, seventeen, 0, 0);
        int nineteen = x.make(1, eighteen, 0, 0);
        x.clause(0, v, w, 0, x.make(2, v, w, zero));
        x.clause(1, v, w, 0, x.call(2, x.make(2, v, w, zero), v, 0));
        x.clause(2, v, w, 0, w);
        checks.due("promise 8: it ends", 0, x::check);
        checks.due("promise 12: sixty", 60, () -> x.run(0, forty, eighteen, 0));
        checks.due("promise 13: the last of sixty", 0, () -> x.answer(59));
        checks.index("promise 13: no 61st", () -> x.answer(60));
        checks.due("promise 12: sixty-one", 0, () -> x.run(0, forty, nineteen, 0));
        checks.index("promise 13: no answer", () -> x.answer(0));
        checks.due("promise 14: the step before it ended", 1, () -> x.count(0));
        checks.due("promise 12: sixty on the way", 40, () -> x.run(1, forty, eighteen, 0));
        checks.due("promise 14: sixty on the way", 2, () -> x.count(0));
        checks.due("promise 12: sixty-one on the way", 0, () -> x.run(1, forty, nineteen, 0));
        checks.due("promise 14: sixty-one on the way", 1, () -> x.count(0));
    }

    /** Fifteen bodies of forty constructors are 600; one constant more is too many. */
    private static void builtLimit() {
        SureFunctions x = new SureFunctions();
        x.constructor(0, -1, 0, 0);
        x.constructor(0, 0, 0, 0);
        x.function(0, -1, 0, 0);
        x.function(0, 0, 0, 0);
        x.function(0, 0, -1, 0);
        x.function(0, 0, -1, 0);
        int v = x.variable(0);
        int zero = x.make(0, 0, 0, 0);
        int four = x.make(1, zero, zero, zero);
        int thirteen = x.make(1, four, four, four);
        int forty = x.make(1, thirteen, thirteen, thirteen);
        int big = x.call(0, 0, 0, 0);
        int three = x.call(1, big, big, big);
        int nine = x.call(1, three, three, three);
        int six = x.call(1, three, three, v);
        x.clause(0, 0, 0, 0, forty);
        x.clause(1, v, x.variable(1), x.variable(2), v);
        x.clause(2, v, 0, 0, x.call(1, nine, six, v));
        x.clause(3, v, 0, 0, x.call(1, nine, six, zero));
        checks.due("promise 8: it ends", 0, x::check);
        checks.due("promise 12: 600 terms, and a value handed in", 40, () -> x.run(2, forty, 0, 0));
        checks.due("promise 14: 600 terms", 24, () -> x.count(0));
        checks.due("promise 12: 601 terms", 0, () -> x.run(3, zero, 0, 0));
        checks.due("promise 14: 601 terms", 23, () -> x.count(0));
        checks.index("promise 13: 601 terms", () -> x.answer(0));
        checks.due("promise 12: 600 terms again", 40, () -> x.run(2, zero, 0, 0));
    }

    /** Six functions count 36 calls down each, most calls inside of five constructors: about as deep as a run can go. */
    private static void deepRun() {
        SureFunctions x = numbers();
        for (int f = 0; f < 6; f++) {
            x.function(0, 0, 0, 0);
        }
        int a = x.variable(0);
        int b = x.variable(1);
        int r = x.variable(2);
        int zero = x.make(0, 0, 0, 0);
        int nextA = x.make(1, a, 0, 0);
        int nextB = x.make(1, b, 0, 0);
        for (int f = 0; f < 6; f++) {
            x.clause(f, a, nextB, r, wrapped(x, x.call(f, a, b, r), 5));
            x.clause(f, nextA, zero, r, f < 5 ? x.call(f, a, r, r) : wrapped(x, x.call(f, a, r, r), 5));
            x.clause(f, zero, zero, r, f < 5 ? wrapped(x, x.call(f + 1, r, r, r), 2) : zero);
        }
        int five = wrapped(x, zero, 5);
        int one = wrapped(x, zero, 1);
        checks.due("promise 8: it ends", 0, x::check);
        checks.due("promise 12: about as deep as can be", 0, () -> x.run(0, five, five, five));
        checks.due("promise 14: about as deep as can be", 200, () -> x.count(0));
        checks.index("promise 13: about as deep as can be", () -> x.answer(0));
        checks.due("promise 12: less deep, but too great", 0, () -> x.run(0, one, one, one));
        checks.due("promise 14: less deep, but too great", 24, () -> x.count(0));
        checks.due("promise 12: an answer", 11, () -> x.run(5, zero, x.make(1, one, 0, 0), zero));
        checks.due("promise 13: an answer", answerOf(x, 11), "11111111110");
    }

    private static int wrapped(SureFunctions x, int term, int times) {
        int wrapped = term;
        for (int i = 0; i < times; i++) {
            wrapped = x.make(1, wrapped, 0, 0);
        }
        return wrapped;
    }

    private static void counts() {
        SureFunctions x = numbers();
        x.function(0, 0, -1, 0);
        int v = x.variable(0);
        x.clause(0, v, 0, 0, v);
        x.clause(0, v, 0, 0, v);
        x.clause(0, v, 0, 0, v);
        x.variable(0);
        x.variable(0);
        x.make(0, 0, 0, 0);
        checks.due("promise 14: constructors", 2, () -> x.count(1));
        checks.due("promise 14: functions", 1, () -> x.count(2));
        checks.due("promise 14: terms", 4, () -> x.count(3));
        checks.due("promise 14: clauses", 3, () -> x.count(4));
        checks.due("promise 14: unchecked", 0, () -> x.count(5));
        checks.due("promise 14: 6", -1, () -> x.count(6));
        checks.due("promise 14: -1", -1, () -> x.count(-1));
        checks.due("promise 14: a great number", -1, () -> x.count(Integer.MAX_VALUE));
        checks.due("promise 14: a great negative number", -1, () -> x.count(Integer.MIN_VALUE));
        x.check();
        checks.due("promise 14: checked", 1, () -> x.count(5));
    }
}
