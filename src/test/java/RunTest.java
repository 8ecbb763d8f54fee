/** Promise 12 and the sentences on running. */
public final class RunTest {
    private static final Checks checks = new Checks();

    public static void main(String[] args) {
        addition();
        firstClauseCounts();
        whatStands();
        partsMatch();
        withoutArguments();
        notChecked();
        somethingWrong();
        noSuchFunction();
        noValueOfItsType();
        whatItDoesNotNeed();
        wrongAndUnchecked();
        partsFromTheFirstOn();
        argumentsFromTheFirstOn();
        oneStep();
        steps();
        stepsInARow();
        sixtyConstructors();
        sixtyOnTheWay();
        sixHundredTerms();
        allAtOnce();
        deepRun();
        deepRunThatHoldsMuch();
        endedRunLeavesNoAnswer();
        checks.end();
    }

    private static String answerOf(SureFunctions x, int size) {
        StringBuilder text = new StringBuilder();
        for (int i = 0; i < size; i++) {
            text.append(x.answer(i));
        }
        return text.toString();
    }

    private static void ran(String what, int size, int steps, SureFunctions x, int... call) {
        checks.due("promise 12: " + what, size, () -> x.run(call[0], call[1], call[2], call[3]));
        checks.due("promise 14: steps of " + what, steps, () -> x.count(0));
        checks.index("promise 13: behind the answer of " + what, () -> x.answer(size));
    }

    /** "how many constructors the answer has" */
    private static void addition() {
        SureFunctions x = Programs.numbers();
        x.function(0, 0, 0, -1);
        int v = x.variable(0);
        int w = x.variable(1);
        int zero = x.make(0, 0, 0, 0);
        x.clause(0, zero, w, 0, w);
        x.clause(0, x.make(1, v, 0, 0), w, 0, x.make(1, x.call(0, v, w, 0), 0, 0));
        x.check();
        int two = Programs.wrapped(x, zero, 2);
        ran("2 + 2", 5, 3, x, 0, two, two, 0);
        checks.due("promise 13: 2 + 2", answerOf(x, 5), "11110");
        ran("0 + 0", 1, 1, x, 0, zero, zero, 0);
        checks.due("promise 13: 0 + 0", answerOf(x, 1), "0");
    }

    /** "the first clause that all of them match is the one that counts" */
    private static void firstClauseCounts() {
        SureFunctions x = Programs.numbers();
        x.function(0, 0, 0, -1);
        int v = x.variable(0);
        int w = x.variable(1);
        int zero = x.make(0, 0, 0, 0);
        int one = x.make(1, zero, 0, 0);
        int two = x.make(1, one, 0, 0);
        x.clause(0, one, v, 0, two);
        x.clause(0, v, zero, 0, one);
        x.clause(0, v, w, 0, zero);
        x.clause(0, zero, zero, 0, two);
        x.check();
        ran("the first of two clauses", 3, 1, x, 0, one, zero, 0);
        ran("a pattern inside tells", 2, 1, x, 0, two, zero, 0);
        ran("the second argument tells", 1, 1, x, 0, two, one, 0);
        ran("a later clause never counts", 2, 1, x, 0, zero, zero, 0);
    }

    /** "A value MATCHES a pattern that is a variable (which then stands for it)", in the clause that counts alone. */
    private static void whatStands() {
        SureFunctions x = new SureFunctions();
        for (int c = 0; c < 4; c++) {
            x.constructor(0, -1, -1, -1);
        }
        x.constructor(1, 0, 0, 0);
        x.function(1, 1, 0, 0);
        int[] v = new int[8];
        for (int i = 0; i < 8; i++) {
            v[i] = x.variable(i);
        }
        int[] c = new int[4];
        for (int i = 0; i < 4; i++) {
            c[i] = x.make(i, 0, 0, 0);
        }
        x.clause(0, x.make(4, v[2], v[1], v[0]), v[3], c[0], x.make(4, v[3], v[2], v[0]));
        x.clause(0, x.make(4, v[0], v[1], v[7]), v[2], v[3], x.make(4, v[7], v[3], v[1]));
        x.check();
        int given = x.make(4, c[1], c[2], c[3]);
        ran("the first clause", 4, 1, x, 0, given, c[2], c[0]);
        checks.due("promise 13: the first clause", answerOf(x, 4), "4213");
        ran("the second clause", 4, 1, x, 0, given, c[0], c[1]);
        checks.due("promise 13: the second clause", answerOf(x, 4), "4312");
    }

    /** "and one with the same constructor, if its parts match the pattern's": each of the parts. */
    private static void partsMatch() {
        for (int place = 0; place < 3; place++) {
            SureFunctions x = new SureFunctions();
            x.constructor(0, -1, -1, -1);
            x.constructor(0, -1, -1, -1);
            x.constructor(1, 0, 0, 0);
            x.function(0, 1, -1, -1);
            int[] p = {x.variable(0), x.variable(1), x.variable(2)};
            int zero = x.make(0, 0, 0, 0);
            int other = x.make(1, 0, 0, 0);
            p[place] = other;
            x.clause(0, x.make(2, p[0], p[1], p[2]), 0, 0, other);
            x.clause(0, x.variable(3), 0, 0, zero);
            x.check();
            for (int n = 0; n < 8; n++) {
                int row = n;
                int[] part = {zero, other};
                int given = x.make(2, part[n % 2], part[n / 2 % 2], part[n / 4]);
                x.run(0, given, 0, 0);
                checks.due("promise 12: row " + n + ", place " + place, row >> place & 1, () -> x.answer(0));
            }
        }
    }

    private static void withoutArguments() {
        SureFunctions x = Programs.numbers();
        x.function(0, -1, -1, -1);
        x.function(0, -1, -1, -1);
        x.clause(0, 0, 0, 0, x.make(1, x.call(1, 0, 0, 0), 0, 0));
        x.clause(1, 0, 0, 0, x.make(0, 0, 0, 0));
        x.check();
        ran("a function without arguments", 2, 2, x, 0, 0, 0, 0);
        checks.due("promise 13: a function without arguments", answerOf(x, 2), "10");
    }

    /** Boxes of numbers in type 1, a function of a box and two numbers; terms 0 and 1 variables, 2 zero, 3 a box. */
    private static SureFunctions boxes() {
        SureFunctions x = Programs.numbers();
        x.constructor(1, 0, -1, -1);
        x.function(0, 1, 0, 0);
        x.variable(0);
        x.variable(1);
        x.make(0, 0, 0, 0);
        x.make(2, 2, 0, 0);
        x.clause(0, 0, 1, x.variable(2), 1);
        return x;
    }

    /** "IllegalStateException when the program wasn't checked" */
    private static void notChecked() {
        new Edge(checks, RunTest::boxes).state("promise 12: never checked", x -> x.run(0, 3, 2, 2));
        Edge checked = new Edge(checks, () -> checked(boxes()));
        checked.allowed("promise 12: checked", 1, x -> x.run(0, 3, 2, 2));
        Edge constructor = new Edge(checks, () -> {
            SureFunctions x = checked(boxes());
            x.constructor(0, -1, -1, -1);
            return x;
        });
        constructor.state("promise 12: a constructor more", x -> x.run(0, 3, 2, 2));
        constructor.allowed("promise 12: a constructor more, and checked", 1, x -> checked(x).run(0, 3, 2, 2));
        Edge function = new Edge(checks, () -> {
            SureFunctions x = checked(boxes());
            x.function(0, 0, -1, -1);
            return x;
        });
        function.state("promise 12: a function more", x -> x.run(0, 3, 2, 2));
        Edge clause = new Edge(checks, () -> {
            SureFunctions x = checked(boxes());
            x.clause(0, 0, 1, 4, 2);
            return x;
        });
        clause.state("promise 12: a clause more", x -> x.run(0, 3, 2, 2));
        clause.allowed("promise 12: a clause more, and checked", 1, x -> checked(x).run(0, 3, 2, 2));
        Edge terms = new Edge(checks, () -> {
            SureFunctions x = checked(boxes());
            x.variable(3);
            x.call(0, 0, 0, 0);
            x.make(1, 2, 0, 0);
            return x;
        });
        terms.allowed("promise 12: terms more", 2, x -> x.run(0, 3, x.count(3) - 1, 2));
    }

    private static SureFunctions checked(SureFunctions x) {
        x.check();
        return x;
    }

    /** "or something was wrong with it": each of the four. */
    private static void somethingWrong() {
        Edge inhabited = new Edge(checks, () -> {
            SureFunctions x = boxes();
            x.constructor(2, 2, -1, -1);
            return checked(x);
        });
        inhabited.state("promise 12: not inhabited", x -> x.run(0, 3, 2, 2));
        Edge typed = new Edge(checks, () -> {
            SureFunctions x = boxes();
            x.clause(0, 0, 1, 4, 0);
            return checked(x);
        });
        typed.state("promise 12: not typed", x -> x.run(0, 3, 2, 2));
        Edge covered = new Edge(checks, () -> {
            SureFunctions x = boxes();
            x.function(0, 0, -1, -1);
            return checked(x);
        });
        covered.state("promise 12: not covered", x -> x.run(0, 3, 2, 2));
        Edge ending = new Edge(checks, () -> {
            SureFunctions x = boxes();
            x.clause(0, 0, 1, 4, x.call(0, 0, 1, 4));
            return checked(x);
        });
        ending.state("promise 12: not ending", x -> x.run(0, 3, 2, 2));
    }

    /** "IllegalArgumentException when there is no such function" */
    private static void noSuchFunction() {
        Edge edge = new Edge(checks, () -> checked(boxes()));
        for (int f : new int[] {-1, 1, 6, Programs.FAR[0], Programs.FAR[1]}) {
            edge.argument("promise 12: function " + f, x -> x.run(f, 3, 2, 2));
        }
        new Edge(checks, () -> checked(new SureFunctions()))
                .argument("promise 12: nothing declared, but checked", x -> x.run(0, 0, 0, 0));
    }

    /** "or some argument is no value of its type", in each place. */
    private static void noValueOfItsType() {
        Edge edge = new Edge(checks, () -> {
            SureFunctions x = checked(boxes());
            x.call(0, 3, 2, 2);
            x.make(1, 0, 0, 0);
            x.make(1, 3, 0, 0);
            return x;
        });
        int[] right = {3, 2, 2};
        for (int place = 0; place < 3; place++) {
            int other = place == 0 ? 2 : 3;
            for (int bad : new int[] {-1, 0, other, 5, 6, 7, 8, 99, 100, Programs.FAR[0], Programs.FAR[1]}) {
                int[] a = right.clone();
                a[place] = bad;
                edge.argument("promise 12: term " + bad + " in place " + place, x -> x.run(0, a[0], a[1], a[2]));
            }
        }
        edge.allowed("promise 12: values of their types", 1, x -> x.run(0, 3, 2, 2));
    }

    /** "(what it doesn't need is not looked at)" */
    private static void whatItDoesNotNeed() {
        Edge edge = new Edge(checks, () -> {
            SureFunctions x = Programs.allWidths();
            int zero = x.make(0, 0, 0, 0);
            for (int f = 0; f < 4; f++) {
                x.clause(f, x.variable(0), x.variable(1), x.variable(2), zero);
            }
            return checked(x);
        });
        for (int junk : new int[] {-1, 1, 99, 100, Programs.FAR[0], Programs.FAR[1]}) {
            edge.allowed("promise 12: no argument, " + junk, 1, x -> x.run(0, junk, junk, junk));
            edge.allowed("promise 12: one argument, " + junk, 1, x -> x.run(1, 0, junk, junk));
            edge.allowed("promise 12: two arguments, " + junk, 1, x -> x.run(2, 0, 0, junk));
            edge.argument("promise 12: one argument is " + junk, x -> x.run(1, junk, 0, 0));
            edge.argument("promise 12: the second of two is " + junk, x -> x.run(2, 0, junk, 0));
            edge.argument("promise 12: the third of three is " + junk, x -> x.run(3, 0, 0, junk));
        }
    }

    /** "if several exceptions are due that one is thrown which the call names first" */
    private static void wrongAndUnchecked() {
        Edge never = new Edge(checks, RunTest::boxes);
        never.state("promise 12: unchecked, and no such function", x -> x.run(1, 3, 2, 2));
        never.state("promise 12: unchecked, and function -1", x -> x.run(-1, 3, 2, 2));
        never.state("promise 12: unchecked, and no value", x -> x.run(0, 0, 2, 2));
        never.state("promise 12: unchecked, and no term", x -> x.run(0, 3, 2, -1));
        new Edge(checks, SureFunctions::new).state("promise 12: nothing declared", x -> x.run(0, 0, 0, 0));
        Edge wrong = new Edge(checks, () -> {
            SureFunctions x = boxes();
            x.function(0, 0, -1, -1);
            return checked(x);
        });
        wrong.state("promise 12: wrong, and no such function", x -> x.run(2, 3, 2, 2));
        wrong.state("promise 12: wrong, and no value", x -> x.run(0, 0, 2, 2));
    }

    /**
     * Function 0 makes too much of a value of forty, 1 answers its argument, 2 the first of its three; terms: 0 zero,
     * 1 .. 3 of sizes 4, 13 and 40, 4 a variable, 5 too much of it, 6 it through function 1.
     */
    private static SureFunctions tooMuch() {
        SureFunctions x = Programs.allWidths();
        int zero = x.make(0, 0, 0, 0);
        int four = x.make(3, zero, zero, zero);
        int thirteen = x.make(3, four, four, four);
        x.make(3, thirteen, thirteen, thirteen);
        int v = x.variable(0);
        x.function(0, 0, -1, -1);
        x.call(4, v, 0, 0);
        x.call(1, v, 0, 0);
        x.clause(0, 0, 0, 0, zero);
        x.clause(1, v, 0, 0, v);
        x.clause(2, v, x.variable(1), 0, v);
        x.clause(3, v, x.variable(1), x.variable(2), v);
        x.clause(4, v, 0, 0, x.make(2, v, v, 0));
        x.function(0, 0, -1, -1);
        return x;
    }

    /** "(Arguments and parts from the first on.)": parts behind one that ends the run make no more steps. */
    private static void partsFromTheFirstOn() {
        for (int place = 0; place < 3; place++) {
            SureFunctions x = tooMuch();
            int[] parts = {6, 6, 6};
            parts[place] = 5;
            x.clause(5, 4, 0, 0, x.make(3, parts[0], parts[1], parts[2]));
            checks.due("promise 8: it ends", 0, x::check);
            ran("too much in part " + place, 0, place + 2, x, 5, 3, 0, 0);
            ran("enough in part " + place, 1 + 1 + 1 + 3, 4, x, 5, 0, 0, 0);
        }
    }

    /**
     * "of a call: first the values of its arguments, then the value of the body"; "Each call is a STEP when its
     * arguments have their values"
     */
    private static void argumentsFromTheFirstOn() {
        for (int place = 0; place < 3; place++) {
            SureFunctions x = tooMuch();
            int[] arguments = {6, 6, 6};
            arguments[place] = 5;
            x.clause(5, 4, 0, 0, x.call(3, arguments[0], arguments[1], arguments[2]));
            checks.due("promise 8: it ends", 0, x::check);
            ran("too much in argument " + place + ", used or not", 0, place + 2, x, 5, 3, 0, 0);
            ran("enough in argument " + place, place == 0 ? 3 : 1, 5, x, 5, 0, 0, 0);
        }
        SureFunctions y = tooMuch();
        y.clause(5, 4, 0, 0, y.call(4, y.call(1, 6, 0, 0), 0, 0));
        checks.due("promise 8: it ends", 0, y::check);
        ran("two calls inside, then the one that makes too much", 0, 4, y, 5, 3, 0, 0);
    }

    /** "Each call is a STEP .., the run's own the first one" */
    private static void oneStep() {
        SureFunctions x = checked(boxes());
        ran("one step", 1, 1, x, 0, 3, 2, 2);
        ran("one step again", 1, 1, x, 0, 3, 2, 2);
    }

    /** "The run ends without an answer at the 201st step", which may be the last or the first in the body. */
    private static void steps() {
        SureFunctions x = Programs.numbers();
        x.constructor(0, -1, -1, -1);
        x.function(0, -1, -1, -1);
        x.function(0, 0, 0, 0);
        x.function(0, -1, -1, -1);
        x.function(0, -1, -1, -1);
        x.function(0, -1, -1, -1);
        x.function(0, 0, -1, -1);
        int v = x.variable(0);
        int zero = x.make(0, 0, 0, 0);
        int one = x.call(0, 0, 0, 0);
        int five = x.call(2, 0, 0, 0);
        int seventeen = x.call(3, 0, 0, 0);
        int fiftyThree = x.call(4, 0, 0, 0);
        x.clause(0, 0, 0, 0, zero);
        x.clause(1, v, x.variable(1), x.variable(2), v);
        x.clause(2, 0, 0, 0, x.call(1, one, one, one));
        x.clause(3, 0, 0, 0, x.call(1, five, five, five));
        x.clause(4, 0, 0, 0, x.call(1, seventeen, seventeen, seventeen));
        int most = x.call(1, fiftyThree, fiftyThree, fiftyThree);
        int rest = x.call(1, seventeen, one, x.call(1, one, zero, zero));
        int twoHundred = x.call(1, most, seventeen, rest);
        x.clause(5, zero, 0, 0, twoHundred);
        x.clause(5, x.make(1, zero, 0, 0), 0, 0, Programs.wrapped(x, twoHundred, 1));
        x.clause(5, x.make(1, x.make(1, v, 0, 0), 0, 0), 0, 0,
                x.call(1, most, seventeen, x.call(1, seventeen, one, x.call(1, one, one, zero))));
        x.clause(5, v, 0, 0, x.call(1, x.call(1, most, seventeen, rest), zero, zero));
        checks.due("promise 8: it ends", 0, x::check);
        ran("200 steps", 1, 200, x, 5, zero, 0, 0);
        ran("200 steps, and a constructor behind the last", 2, 200, x, 5, Programs.wrapped(x, zero, 1), 0, 0);
        ran("201 steps", 0, 200, x, 5, Programs.wrapped(x, zero, 2), 0, 0);
        ran("201 steps, the last of them outside", 0, 200, x, 5, x.make(2, 0, 0, 0), 0, 0);
        ran("five steps, behind a run that ended", 1, 5, x, 2, 0, 0, 0);
    }

    /** Each function calls the one before six times on its own answers, so that a call left out would not be missed. */
    private static void stepsInARow() {
        SureFunctions x = Programs.numbers();
        int v = x.variable(0);
        x.function(0, 0, -1, -1);
        x.clause(0, v, 0, 0, v);
        for (int f = 1; f < 4; f++) {
            x.function(0, 0, -1, -1);
            int body = v;
            for (int i = 0; i < 6; i++) {
                body = x.call(f - 1, body, 0, 0);
            }
            x.clause(f, v, 0, 0, body);
        }
        int zero = x.make(0, 0, 0, 0);
        checks.due("promise 8: it ends", 0, x::check);
        ran("43 steps in a row", 1, 43, x, 2, zero, 0, 0);
        ran("259 steps in a row", 0, 200, x, 3, zero, 0, 0);
    }

    /** Sizes 1, 4, 13, 40, 17, 18, 19 are terms 0 .. 3 and 5 .. 7; terms 8 and 9 are variables. */
    private static SureFunctions sizes() {
        SureFunctions x = Programs.allWidths();
        x.make(0, 0, 0, 0);
        x.make(3, 0, 0, 0);
        x.make(3, 1, 1, 1);
        x.make(3, 2, 2, 2);
        x.make(1, 0, 0, 0);
        x.make(3, 2, 0, 4);
        x.make(1, 5, 0, 0);
        x.make(1, 6, 0, 0);
        x.variable(0);
        x.variable(1);
        x.clause(0, 0, 0, 0, 0);
        x.clause(1, 8, 0, 0, 8);
        return x;
    }

    /** "at the first value of more than 60 constructors" */
    private static void sixtyConstructors() {
        SureFunctions x = sizes();
        x.clause(2, 8, 9, 0, x.make(3, 8, 9, 0));
        x.clause(3, 8, 9, x.variable(2), x.make(1, x.call(2, 8, 9, 0), 0, 0));
        x.check();
        ran("sixty constructors", 60, 1, x, 2, 3, 6, 0);
        checks.due("promise 13: the first of sixty", 3, () -> x.answer(0));
        checks.due("promise 13: the last of sixty", 0, () -> x.answer(59));
        ran("sixty-one constructors", 0, 1, x, 2, 3, 7, 0);
        ran("eighty-two constructors", 0, 1, x, 2, 3, 3, 0);
        ran("59, and one round them", 60, 2, x, 3, 3, 5, 0);
        ran("sixty, and one round them", 0, 2, x, 3, 3, 6, 0);
    }

    /** Also a value that the answer has no more of. */
    private static void sixtyOnTheWay() {
        SureFunctions x = sizes();
        x.clause(2, 8, 9, 0, x.call(3, 9, 8, x.make(3, 8, 9, 0)));
        x.clause(3, 8, 9, x.variable(2), 8);
        x.check();
        ran("sixty on the way", 18, 2, x, 2, 3, 6, 0);
        ran("sixty-one on the way", 0, 1, x, 2, 3, 7, 0);
    }

    /** Function 0 makes forty, 1 fifteen times forty, 2 one constant more, 3 answers the first of three. */
    private static SureFunctions fifteenTimesForty() {
        SureFunctions x = Programs.allWidths();
        int v = x.variable(0);
        int zero = x.make(0, 0, 0, 0);
        int four = x.make(3, zero, zero, zero);
        int thirteen = x.make(3, four, four, four);
        int forty = x.make(3, thirteen, thirteen, thirteen);
        int big = x.call(0, 0, 0, 0);
        int three = x.call(3, big, big, big);
        int nine = x.call(3, three, three, three);
        int six = x.call(3, three, three, v);
        x.clause(0, 0, 0, 0, forty);
        x.clause(1, v, 0, 0, x.call(3, nine, six, v));
        x.clause(2, v, x.variable(1), 0, x.call(3, nine, six, zero));
        x.clause(3, v, x.variable(1), x.variable(2), v);
        x.check();
        return x;
    }

    /** "when the 601st constructor's term of bodies, in all of the run, would get its value" */
    private static void sixHundredTerms() {
        SureFunctions x = fifteenTimesForty();
        int zero = 1;
        int forty = 4;
        ran("600 terms", 40, 24, x, 1, zero, 0, 0);
        ran("601 terms", 0, 23, x, 2, zero, zero, 0);
        ran("600 terms, behind a run that ended", 40, 24, x, 1, zero, 0, 0);
        ran("600 terms, and a value of forty handed in, which doesn't count", 40, 24, x, 1, forty, 0, 0);
    }

    /**
     * Function 0 makes forty, 1 takes fourteen steps, 2 makes 39, 3 answers the first of three, 4 takes 176 steps. What
     * function 5 does its third argument tells: 200 steps and 600 terms, one step more, or one term more.
     */
    private static SureFunctions allLimits() {
        SureFunctions x = Programs.allWidths();
        x.function(0, 0, -1, -1);
        x.function(0, 0, 0, 0);
        int zero = x.make(0, 0, 0, 0);
        int four = x.make(3, zero, zero, zero);
        int thirteen = x.make(3, four, four, four);
        int forty = x.make(3, thirteen, thirteen, thirteen);
        int nineteen = x.make(3, thirteen, zero, four);
        x.make(1, nineteen, 0, 0);
        int v = x.variable(0);
        int w = x.variable(1);
        int u = x.variable(2);
        int twelve = x.make(3, four, four, x.make(2, zero, zero, 0));
        int once = x.call(3, v, v, v);
        int fourTimes = x.call(3, once, once, once);
        int twice14 = x.call(1, x.call(1, v, 0, 0), 0, 0);
        int six14 = x.call(3, twice14, twice14, twice14);
        int twelve14 = x.call(3, six14, six14, once);
        x.clause(0, 0, 0, 0, forty);
        x.clause(1, v, 0, 0, x.call(3, fourTimes, fourTimes, fourTimes));
        x.clause(2, v, w, 0, x.make(3, thirteen, thirteen, twelve));
        x.clause(3, v, w, u, v);
        x.clause(4, v, 0, 0, x.call(3, twelve14, once, once));
        int big = x.call(0, 0, 0, 0);
        int three = x.call(3, big, big, big);
        int nine = x.call(3, three, three, three);
        int made599 = x.call(3, nine, three, x.call(3, big, big, x.call(2, v, v, 0)));
        int pair = x.make(2, v, w, 0);
        int long176 = x.call(4, v, 0, 0);
        x.clause(5, v, w, zero, x.call(3, pair, made599, long176));
        x.clause(5, v, w, x.make(1, u, 0, 0), x.call(3, pair, made599, x.call(3, long176, v, v)));
        x.clause(5, v, w, u, x.call(3, pair, x.call(3, nine, three, three), long176));
        x.check();
        return x;
    }

    /** 200 steps, 600 constructor's terms and an answer of sixty in one run, and one more of each. */
    private static void allAtOnce() {
        SureFunctions x = allLimits();
        int zero = 0;
        int forty = 3;
        int nineteen = 4;
        int twenty = 5;
        checks.due("promise 8: all limits", 1, () -> x.count(5));
        ran("200 steps, 600 terms, 60 constructors", 60, 200, x, 5, forty, nineteen, zero);
        ran("201 steps, 600 terms", 0, 200, x, 5, forty, nineteen, twenty);
        ran("601 terms", 0, 21, x, 5, forty, nineteen, forty);
        ran("61 constructors", 0, 1, x, 5, forty, twenty, zero);
        ran("200 steps, 600 terms, 60 constructors again", 60, 200, x, 5, forty, nineteen, zero);
    }

    /** Six functions count 36 calls down each, most calls inside of five constructors: about as deep as can be. */
    private static void deepRun() {
        SureFunctions x = Programs.numbers();
        for (int f = 0; f < 6; f++) {
            x.function(0, 0, 0, 0);
        }
        int a = x.variable(0);
        int b = x.variable(1);
        int r = x.variable(2);
        int zero = x.make(0, 0, 0, 0);
        int nextA = x.make(1, a, 0, 0);
        int nextB = x.make(1, b, 0, 0);
        for (int f = 0; f < 6; f++) {
            int again = x.call(f, a, r, r);
            x.clause(f, a, nextB, r, Programs.wrapped(x, x.call(f, a, b, r), 5));
            x.clause(f, nextA, zero, r, f < 5 ? again : Programs.wrapped(x, again, 5));
            x.clause(f, zero, zero, r, f < 5 ? Programs.wrapped(x, x.call(f + 1, r, r, r), 2) : zero);
        }
        int five = Programs.wrapped(x, zero, 5);
        int one = Programs.wrapped(x, zero, 1);
        checks.due("promise 8: it ends", 0, x::check);
        ran("a run about as deep as can be", 0, 200, x, 0, five, five, five);
        ran("a run less deep, but too great", 0, 24, x, 0, one, one, one);
        ran("a run that has an answer", 11, 3, x, 5, zero, Programs.wrapped(x, one, 1), zero);
        checks.due("promise 13: a run that has an answer", answerOf(x, 11), "11111111110");
    }

    /** The same, but each call is the last part of five triples, so that two values wait in each of them. */
    private static void deepRunThatHoldsMuch() {
        SureFunctions x = Programs.numbers();
        x.constructor(0, 0, 0, 0);
        for (int f = 0; f < 6; f++) {
            x.function(0, 0, 0, 0);
        }
        int a = x.variable(0);
        int b = x.variable(1);
        int r = x.variable(2);
        int zero = x.make(0, 0, 0, 0);
        int nextA = x.make(1, a, 0, 0);
        int nextB = x.make(1, b, 0, 0);
        for (int f = 0; f < 6; f++) {
            x.clause(f, a, nextB, r, lastOfTriples(x, x.call(f, a, b, r), r));
            x.clause(f, nextA, zero, r, x.call(f, a, r, r));
            x.clause(f, zero, zero, r, f < 5 ? x.call(f + 1, r, r, r) : zero);
            x.clause(f, a, b, r, zero);
        }
        int five = Programs.wrapped(x, zero, 5);
        checks.due("promise 8: it ends", 0, x::check);
        ran("a deep run that holds much", 0, 200, x, 0, five, five, five);
    }

    private static int lastOfTriples(SureFunctions x, int term, int other) {
        int last = term;
        for (int i = 0; i < 5; i++) {
            last = x.make(2, other, other, last);
        }
        return last;
    }

    /** "0 when the run ended without one (there is no latest answer then)" */
    private static void endedRunLeavesNoAnswer() {
        SureFunctions x = fifteenTimesForty();
        ran("an answer", 40, 24, x, 1, 1, 0, 0);
        checks.due("promise 13: it is there", 3, () -> x.answer(0));
        ran("none", 0, 23, x, 2, 1, 1, 0);
        checks.index("promise 13: it is there no more", () -> x.answer(0));
    }
}
