/** Promises 8 to 10: check, graphs and arc. */
public final class CheckTest {
    private static final Checks checks = new Checks();

    public static void main(String[] args) {
        inhabited();
        typed();
        typedVariables();
        covered();
        coveredInside();
        coveredWithoutArguments();
        firstWrong();
        uncheckedAgain();
        ending();
        strictOnlyTogether();
        exchanged();
        mutual();
        arcs();
        arcsOfConstants();
        graphLimit(2, 200, 0);
        graphLimit(3, 201, 4);
        checks.end();
    }

    private static void inhabited() {
        SureFunctions x = new SureFunctions();
        checks.due("promise 8: nothing declared", 0, x::check);
        checks.due("promise 14: nothing declared is checked", 1, () -> x.count(5));
        x.constructor(1, 2, -1, -1);
        checks.due("promise 8: a part's type without a value", 1, x::check);
        x.constructor(2, 1, -1, -1);
        checks.due("promise 8: a circle of types", 1, x::check);
        x.constructor(2, 0, -1, -1);
        checks.due("promise 8: a circle and an empty type", 1, x::check);
        x.constructor(0, -1, -1, -1);
        checks.due("promise 8: all types have values", 0, x::check);
        SureFunctions y = new SureFunctions();
        y.function(2, -1, -1, -1);
        checks.due("promise 8: an answer's type without a value", 1, y::check);
        y.constructor(2, -1, -1, -1);
        checks.due("promise 8: inhabited, and not covered", 3, y::check);
        y.function(2, 2, 2, 1);
        checks.due("promise 8: an argument's type without a value", 1, y::check);
    }

    private static void typed() {
        SureFunctions x = new SureFunctions();
        x.constructor(0, -1, 0, 0);
        x.constructor(1, 0, -1, 0);
        x.function(1, 0, -1, 0);
        int v = x.variable(0);
        int zero = x.make(0, 0, 0, 0);
        int box = x.make(1, zero, 0, 0);
        int boxOfBox = x.make(1, box, 0, 0);
        x.clause(0, v, 0, 0, x.make(1, v, 0, 0));
        checks.due("promise 8: typed", 0, x::check);
        SureFunctions y = typedWith(v, zero, box, 1);
        checks.due("promise 8: the body is of the wrong type", 2, y::check);
        y = typedWith(v, zero, box, 2);
        checks.due("promise 8: the pattern is of the wrong type", 2, y::check);
        y = typedWith(v, zero, box, 3);
        checks.due("promise 8: a part in the body is of the wrong type", 2, y::check);
        y = typedWith(v, zero, box, 4);
        checks.due("promise 8: a call's argument is of the wrong type", 2, y::check);
        y = typedWith(v, zero, box, 5);
        checks.due("promise 8: a call is of the wrong type", 2, y::check);
        y = typedWith(v, zero, box, 6);
        checks.due("promise 8: a part in the pattern is of the wrong type", 2, y::check);
        checks.due("promise 11: a box of a box is no value", x.isValue(boxOfBox, 1), false);
    }

    /** Function 0 goes from type 0 to 1, function 1 from 1 to 0; what differs is the clause that is wrong. */
    private static SureFunctions typedWith(int v, int zero, int box, int which) {
        SureFunctions x = new SureFunctions();
        x.constructor(0, -1, 0, 0);
        x.constructor(1, 0, -1, 0);
        x.function(1, 0, -1, 0);
        x.variable(0);
        x.make(0, 0, 0, 0);
        x.make(1, zero, 0, 0);
        x.function(0, 1, -1, 0);
        x.clause(0, v, 0, 0, box);
        x.clause(1, v, 0, 0, zero);
        if (which == 1) {
            x.clause(0, v, 0, 0, zero);
        } else if (which == 2) {
            x.clause(0, box, 0, 0, box);
        } else if (which == 3) {
            x.clause(0, v, 0, 0, x.make(1, box, 0, 0));
        } else if (which == 4) {
            x.clause(1, v, 0, 0, x.call(1, zero, 0, 0));
        } else if (which == 5) {
            x.clause(1, v, 0, 0, x.call(0, zero, 0, 0));
        } else {
            x.clause(1, x.make(1, x.make(1, v, 0, 0), 0, 0), 0, 0, zero);
        }
        return x;
    }

    private static void typedVariables() {
        SureFunctions x = new SureFunctions();
        x.constructor(0, -1, 0, 0);
        x.constructor(1, 0, 1, -1);
        x.constructor(1, -1, 0, 0);
        x.function(1, 1, -1, 0);
        int v = x.variable(0);
        int w = x.variable(1);
        int vw = x.make(1, v, w, 0);
        x.clause(0, vw, 0, 0, w);
        x.clause(0, x.make(2, 0, 0, 0), 0, 0, x.make(2, 0, 0, 0));
        checks.due("promise 8: a variable has its part's type", 0, x::check);
        x.clause(0, vw, 0, 0, v);
        checks.due("promise 8: a variable has another part's type", 2, x::check);
    }

    private static SureFunctions numbers() {
        SureFunctions x = new SureFunctions();
        x.constructor(0, -1, 0, 0);
        x.constructor(0, 0, -1, 0);
        return x;
    }

    private static void covered() {
        SureFunctions x = numbers();
        x.function(0, 0, 0, -1);
        int v = x.variable(0);
        int w = x.variable(1);
        int zero = x.make(0, 0, 0, 0);
        int next = x.make(1, v, 0, 0);
        checks.due("promise 8: no clause", 3, x::check);
        x.clause(0, zero, w, 0, zero);
        checks.due("promise 8: one constructor of two", 3, x::check);
        checks.due("promise 9: it didn't come to the graphs", 0, x::graphs);
        x.clause(0, w, zero, 0, zero);
        checks.due("promise 8: one row is left", 3, x::check);
        x.clause(0, next, x.make(1, w, 0, 0), 0, zero);
        checks.due("promise 8: all rows", 0, x::check);
    }

    private static void coveredInside() {
        SureFunctions x = new SureFunctions();
        x.constructor(0, -1, 0, 0);
        x.constructor(0, -1, 0, 0);
        x.constructor(1, 0, 0, 0);
        x.function(0, 1, 1, 1);
        int[] v = new int[8];
        for (int i = 0; i < 8; i++) {
            v[i] = x.variable(i);
        }
        int no = x.make(0, 0, 0, 0);
        int yes = x.make(1, 0, 0, 0);
        x.clause(0, x.make(2, no, v[0], v[1]), v[2], v[3], no);
        x.clause(0, v[0], x.make(2, v[1], no, v[2]), v[3], no);
        x.clause(0, v[0], v[1], x.make(2, v[2], v[3], no), no);
        x.clause(0, x.make(2, yes, v[0], yes), x.make(2, v[1], yes, v[2]), v[3], no);
        checks.due("promise 8: one part of one argument is left", 3, x::check);
        x.clause(0, x.make(2, v[4], v[5], no), v[0], v[1], yes);
        checks.due("promise 8: all parts of all arguments", 0, x::check);
    }

    private static void coveredWithoutArguments() {
        SureFunctions x = numbers();
        x.function(0, -1, 0, 0);
        checks.due("promise 8: the row of none has no clause", 3, x::check);
        x.clause(0, 0, 0, 0, x.make(0, 0, 0, 0));
        checks.due("promise 8: the row of none has one", 0, x::check);
    }

    private static void firstWrong() {
        SureFunctions x = numbers();
        x.function(0, 0, -1, 0);
        x.constructor(1, 1, -1, 0);
        int v = x.variable(0);
        x.clause(0, x.make(2, v, 0, 0), 0, 0, x.call(0, v, 0, 0));
        checks.due("promise 8: all is wrong, types first", 1, x::check);
        x.constructor(1, -1, 0, 0);
        checks.due("promise 8: all but types", 2, x::check);
        SureFunctions y = numbers();
        y.function(0, 0, -1, 0);
        int w = y.variable(0);
        int next = y.make(1, w, 0, 0);
        y.clause(0, next, 0, 0, y.call(0, next, 0, 0));
        checks.due("promise 8: neither covered nor ending", 3, y::check);
        y.clause(0, w, 0, 0, w);
        checks.due("promise 8: not ending", 4, y::check);
        checks.due("promise 9: it came to the graphs", 1, y::graphs);
        checks.due("promise 14: checked and wrong", 0, () -> y.count(5));
        checks.state("promise 12: checked and wrong", () -> y.run(0, w, 0, 0));
    }

    private static void uncheckedAgain() {
        SureFunctions x = numbers();
        x.function(0, 0, -1, 0);
        int v = x.variable(0);
        int zero = x.make(0, 0, 0, 0);
        int next = x.make(1, v, 0, 0);
        x.clause(0, zero, 0, 0, zero);
        x.clause(0, next, 0, 0, x.call(0, v, 0, 0));
        checks.due("promise 14: not checked yet", 0, () -> x.count(5));
        checks.due("promise 9: not checked yet", 0, x::graphs);
        checks.due("promise 8: all is so", 0, x::check);
        checks.due("promise 8: and again", 0, x::check);
        checks.due("promise 14: checked", 1, () -> x.count(5));
        checks.due("promise 9: one graph", 1, x::graphs);
        x.constructor(0, -1, 0, 0);
        checks.due("a constructor makes it unchecked", 0, () -> x.count(5));
        checks.due("promise 9: by the latest check", 1, x::graphs);
        checks.due("promise 8: not covered now", 3, x::check);
        checks.due("promise 9: not reached now", 0, x::graphs);
        x.clause(0, v, 0, 0, v);
        checks.due("promise 8: covered again", 0, x::check);
        x.function(1, -1, 0, 0);
        checks.due("a function makes it unchecked", 0, () -> x.count(5));
        checks.due("promise 8: another type without a value", 1, x::check);
        SureFunctions y = numbers();
        y.function(0, 0, -1, 0);
        int w = y.variable(0);
        y.clause(0, w, 0, 0, w);
        y.check();
        y.clause(0, w, 0, 0, w);
        checks.due("a clause makes it unchecked", 0, () -> y.count(5));
        checks.state("promise 12: unchecked", () -> y.run(0, y.make(0, 0, 0, 0), 0, 0));
    }

    private static void ending() {
        SureFunctions x = numbers();
        x.function(0, 0, -1, 0);
        int v = x.variable(0);
        x.clause(0, v, 0, 0, x.call(0, v, 0, 0));
        checks.due("promise 8: the same for ever", 4, x::check);
        SureFunctions y = numbers();
        y.function(0, -1, 0, 0);
        y.clause(0, 0, 0, 0, y.call(0, 0, 0, 0));
        checks.due("promise 8: a call of itself without arguments", 4, y::check);
        checks.due("promise 9: a graph without arcs", 1, y::graphs);
    }

    /** f(S x, y) = f(x, S y) and f(x, S y) = f(S x, y): each gets smaller in one place, both together in none. */
    private static void strictOnlyTogether() {
        SureFunctions x = numbers();
        x.function(0, 0, 0, -1);
        int v = x.variable(0);
        int w = x.variable(1);
        int nextV = x.make(1, v, 0, 0);
        int nextW = x.make(1, w, 0, 0);
        x.clause(0, nextV, w, 0, x.call(0, v, nextW, 0));
        x.clause(0, v, w, 0, v);
        checks.due("promise 8: one place gets smaller", 0, x::check);
        x.clause(0, v, nextW, 0, x.call(0, nextV, w, 0));
        checks.due("promise 8: no place gets smaller in both", 4, x::check);
        checks.due("promise 9: two of calls and the one without arcs", 3, x::graphs);
    }

    /** f(S x, y) = f(y, x): not smaller in the same place at once, but in two calls. */
    private static void exchanged() {
        SureFunctions x = numbers();
        x.function(0, 0, 0, -1);
        int v = x.variable(0);
        int w = x.variable(1);
        x.clause(0, x.make(1, v, 0, 0), w, 0, x.call(0, w, v, 0));
        x.clause(0, v, w, 0, v);
        checks.due("promise 8: exchanged", 0, x::check);
        checks.due("promise 9: exchanged once, twice, and all strict", 3, x::graphs);
        checks.due("promise 10: strict to the other place", 2, () -> x.arc(0, 0, 0, 1));
        checks.due("promise 10: weak to the other place", 1, () -> x.arc(0, 0, 1, 0));
        checks.due("promise 10: none to the same", 0, () -> x.arc(0, 0, 0, 0));
    }

    private static void mutual() {
        SureFunctions x = numbers();
        x.function(0, 0, -1, 0);
        x.function(0, 0, -1, 0);
        int v = x.variable(0);
        int next = x.make(1, v, 0, 0);
        x.clause(0, v, 0, 0, x.call(1, v, 0, 0));
        x.clause(1, next, 0, 0, x.call(0, next, 0, 0));
        x.clause(1, v, 0, 0, v);
        checks.due("promise 8: two that call each other with the same", 4, x::check);
        checks.due("promise 9: four weak graphs", 4, x::graphs);
    }

    private static void arcs() {
        SureFunctions x = new SureFunctions();
        x.constructor(0, -1, 0, 0);
        x.constructor(0, 0, 0, -1);
        x.function(0, 0, 0, -1);
        x.function(0, 0, -1, 0);
        x.function(0, -1, 0, 0);
        int v = x.variable(0);
        int w = x.variable(1);
        int u = x.variable(2);
        int vw = x.make(1, v, w, 0);
        int deep = x.make(1, vw, x.make(0, 0, 0, 0), 0);
        int sameAgain = x.make(1, x.make(1, x.variable(0), x.variable(1), 0), x.make(0, 0, 0, 0), 0);
        int inner = x.call(1, v, 0, 0);
        int outer = x.call(0, inner, sameAgain, 0);
        int body = x.make(1, x.call(0, u, vw, 0), x.make(1, outer, x.call(2, 0, 0, 0), 0), 0);
        checks.due("promise 7: the clause", 1, () -> x.clause(0, deep, u, 0, body));
        checks.due("promise 10: a part's part's variable is no whole", 0, () -> x.arc(0, 0, 0, 0));
        checks.due("promise 10: the same", 1, () -> x.arc(0, 0, 1, 0));
        checks.due("promise 10: a part", 2, () -> x.arc(0, 0, 0, 1));
        checks.due("promise 10: not a part", 0, () -> x.arc(0, 0, 1, 1));
        checks.due("promise 10: a call inside is no part", 0, () -> x.arc(0, 1, 0, 0));
        checks.due("promise 10: the same in structure", 1, () -> x.arc(0, 1, 0, 1));
        checks.due("promise 10: a call behind the one that it is inside of", 2, () -> x.arc(0, 2, 0, 0));
        checks.argument("promise 10: argument 1 of a function with one", () -> x.arc(0, 2, 0, 1));
        checks.argument("promise 10: argument 0 of a function with none", () -> x.arc(0, 3, 0, 0));
        checks.argument("promise 10: call 4", () -> x.arc(0, 4, 0, 0));
        checks.argument("promise 10: call -1", () -> x.arc(0, -1, 0, 0));
        checks.argument("promise 10: clause 1", () -> x.arc(1, 0, 0, 0));
        checks.argument("promise 10: clause -1", () -> x.arc(-1, 0, 0, 0));
        checks.argument("promise 10: from argument 2", () -> x.arc(0, 0, 2, 0));
        checks.argument("promise 10: from argument -1", () -> x.arc(0, 0, -1, 0));
        checks.argument("promise 10: to argument 2", () -> x.arc(0, 0, 0, 2));
        checks.argument("promise 10: to argument -1", () -> x.arc(0, 0, 0, -1));
    }

    /** Constants have arcs, too, and one place may have several; TYPED or not. */
    private static void arcsOfConstants() {
        SureFunctions x = numbers();
        x.function(1, 2, 2, 2);
        int zero = x.make(0, 0, 0, 0);
        int one = x.make(1, zero, 0, 0);
        int again = x.make(0, 0, 0, 0);
        x.clause(0, zero, one, x.variable(5), x.call(0, again, again, one));
        checks.due("promise 10: the same constant", 1, () -> x.arc(0, 0, 0, 1));
        checks.due("promise 10: a constant inside", 2, () -> x.arc(0, 0, 1, 1));
        checks.due("promise 10: a constant and its part", 0, () -> x.arc(0, 0, 0, 2));
        checks.due("promise 10: a greater constant", 1, () -> x.arc(0, 0, 1, 2));
        checks.due("promise 10: a constant is no variable", 0, () -> x.arc(0, 0, 2, 0));
    }

    /** Four functions call a fifth in 22 clauses with nine calls each and one with a few, all different. */
    private static void graphLimit(int few, int graphs, int verdict) {
        SureFunctions x = new SureFunctions();
        x.constructor(0, -1, 0, 0);
        x.constructor(0, 0, 0, 0);
        x.constructor(1, 0, -1, 0);
        for (int f = 0; f < 4; f++) {
            x.function(0, 1, 1, 1);
        }
        x.function(0, 0, 0, 0);
        int[] leaf = {x.variable(0), x.variable(1), x.variable(2), x.make(0, 0, 0, 0)};
        int[] box = new int[3];
        for (int i = 0; i < 3; i++) {
            box[i] = x.make(2, leaf[i], 0, 0);
        }
        int[] call = new int[54];
        for (int i = 0; i < 54; i++) {
            call[i] = x.call(4, leaf[i % 4], leaf[i / 4 % 4], leaf[i / 16]);
        }
        int[] body = new int[6];
        for (int i = 0; i < 6; i++) {
            int[] third = new int[3];
            for (int j = 0; j < 3; j++) {
                int at = 9 * i + 3 * j;
                third[j] = x.make(1, call[at], call[at + 1], call[at + 2]);
            }
            body[i] = x.make(1, third[0], third[1], third[2]);
        }
        for (int clause = 0; clause < 22; clause++) {
            x.clause(clause / 6, box[0], box[1], box[2], body[clause % 6]);
        }
        x.clause(3, box[0], box[1], box[2], x.make(1, call[51], call[52], few == 3 ? call[53] : leaf[3]));
        x.clause(4, leaf[0], leaf[1], leaf[2], leaf[0]);
        checks.due("promise 8: " + graphs + " graphs", verdict, x::check);
        checks.due("promise 9: " + graphs + " graphs", graphs, x::graphs);
    }
}
