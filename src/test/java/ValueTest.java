/** Promise 11: whether a term is a value of a type. */
public final class ValueTest {
    private static final Checks checks = new Checks();

    public static void main(String[] args) {
        values();
        noCalls();
        noVariables();
        allTyped();
        noSuchTerm();
        noSuchType();
        highAndGreat();
        whateverIsChecked();
        checks.end();
    }

    /** Elements 0 (term 0) of type 0; lists of them of type 1: empty 1 (term 1), one more 2 (terms 2 and 3). */
    private static SureFunctions lists() {
        SureFunctions x = new SureFunctions();
        x.constructor(0, -1, -1, -1);
        x.constructor(1, -1, -1, -1);
        x.constructor(1, 0, 1, -1);
        x.function(0, -1, -1, -1);
        x.function(1, 1, -1, -1);
        x.make(0, 0, 0, 0);
        x.make(1, 0, 0, 0);
        x.make(2, 0, 1, 0);
        x.make(2, 0, 2, 0);
        return x;
    }

    private static void due(String what, SureFunctions x, int term, int type, boolean want) {
        checks.due("promise 11: " + what, x.isValue(term, type), want);
    }

    /** "Whether a term is a value of a type" */
    private static void values() {
        int[] types = {0, 1, 1, 1};
        for (int term = 0; term < 4; term++) {
            for (int type = 0; type < 3; type++) {
                due("term " + term + " of type " + type, lists(), term, type, types[term] == type);
            }
        }
    }

    /** "no calls" */
    private static void noCalls() {
        SureFunctions x = lists();
        due("a call", x, x.call(0, 0, 0, 0), 0, false);
        due("a call of a value", x, x.call(1, 1, 0, 0), 1, false);
        due("a call inside", x, x.make(2, x.call(0, 0, 0, 0), 1, 0), 1, false);
        due("a call inside of the last part", x, x.make(2, 0, x.make(2, 0, x.call(1, 1, 0, 0), 0), 0), 1, false);
    }

    /** "no variables" */
    private static void noVariables() {
        SureFunctions x = lists();
        for (int v = 0; v < 8; v++) {
            int variable = x.variable(v);
            for (int type = 0; type < 3; type++) {
                due("a variable", x, variable, type, false);
            }
            due("a variable inside", x, x.make(2, variable, 1, 0), 1, false);
            due("a variable inside of a part", x, x.make(2, 0, x.make(2, 0, variable, 0), 0), 1, false);
        }
        int w = x.variable(0);
        x.clause(1, w, 0, 0, w);
        x.check();
        due("a variable that had a type in a clause", x, w, 1, false);
    }

    /** "all TYPED" */
    private static void allTyped() {
        SureFunctions x = lists();
        int turned = x.make(2, 1, 0, 0);
        int first = x.make(2, 1, 1, 0);
        int second = x.make(2, 0, 0, 0);
        for (int type = 0; type < 3; type++) {
            due("both parts of other types", x, turned, type, false);
            due("the first part of another type", x, first, type, false);
            due("the second part of another type", x, second, type, false);
        }
        int deep = second;
        for (int i = 0; i < 4; i++) {
            deep = x.make(2, 0, deep, 0);
        }
        due("another type at the very bottom", x, deep, 1, false);
    }

    /** "false if there is no such term" */
    private static void noSuchTerm() {
        SureFunctions x = lists();
        due("the first term", x, 0, 0, true);
        due("the last term", x, 3, 1, true);
        for (int term : new int[] {-1, 4, 99, 100, Programs.FAR[0], Programs.FAR[1]}) {
            for (int type = 0; type < 3; type++) {
                due("term " + term, x, term, type, false);
            }
        }
        due("no term at all", new SureFunctions(), 0, 0, false);
        SureFunctions full = lists();
        for (int i = 4; i < 100; i++) {
            full.make(1, 0, 0, 0);
        }
        due("term 99 of a hundred", full, 99, 1, true);
        due("term 100 of a hundred", full, 100, 1, false);
    }

    /** "or type" */
    private static void noSuchType() {
        SureFunctions x = lists();
        x.constructor(2, -1, -1, -1);
        due("type 2", x, x.make(3, 0, 0, 0), 2, true);
        for (int type : new int[] {-1, 3, Programs.FAR[0], Programs.FAR[1]}) {
            for (int term = -1; term < 6; term++) {
                due("term " + term + " of type " + type, x, term, type, false);
            }
        }
    }

    /** A value may have all the height and all the size that a term may have. */
    private static void highAndGreat() {
        SureFunctions x = Programs.allWidths();
        int zero = x.make(0, 0, 0, 0);
        int thirteen = x.make(3, x.make(3, zero, zero, zero), 1, 1);
        due("size 40", x, x.make(3, thirteen, thirteen, thirteen), 0, true);
        due("height 6", x, Programs.wrapped(x, zero, 5), 0, true);
    }

    /** Nothing needs to be checked, or all so. */
    private static void whateverIsChecked() {
        SureFunctions x = lists();
        x.constructor(2, 2, -1, -1);
        due("before a check", x, 3, 1, true);
        checks.due("promise 8: type 2 has no value", 1, x::check);
        due("in a program that is wrong", x, 3, 1, true);
    }
}
