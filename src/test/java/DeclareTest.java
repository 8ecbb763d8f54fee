/** Promises 1 to 3, sentence by sentence: a new object, constructors, and functions likewise. */
public final class DeclareTest {
    private static final Checks checks = new Checks();

    private interface Declaring {
        int on(SureFunctions x, int type, int a, int b, int c);
    }

    private final String promise;
    private final Declaring declaring;
    private final int counted;
    private final int most;

    private DeclareTest(String promise, Declaring declaring, int counted, int most) {
        this.promise = promise;
        this.declaring = declaring;
        this.counted = counted;
        this.most = most;
    }

    public static void main(String[] args) {
        nothingIsDeclared();
        nothingWasChecked();
        nothingWasRun();
        objectsAreApart();
        new DeclareTest("promise 2: constructor", SureFunctions::constructor, 1, 8).all();
        new DeclareTest("promise 3: function", SureFunctions::function, 2, 6).all();
        partsAreOfTheirTypes();
        argumentsAreOfTheirTypes();
        checks.end();
    }

    /** "Nothing is declared" */
    private static void nothingIsDeclared() {
        SureFunctions x = new SureFunctions();
        for (int n = 1; n <= 4; n++) {
            int what = n;
            checks.due("promise 1: count(" + n + ")", 0, () -> x.count(what));
        }
        checks.argument("promise 1: no constructor", () -> x.make(0, 0, 0, 0));
        checks.argument("promise 1: no function to call", () -> x.call(0, 0, 0, 0));
        checks.argument("promise 1: no function for a clause", () -> x.clause(0, 0, 0, 0, 0));
        checks.argument("promise 1: no clause", () -> x.arc(0, 0, 0, 0));
        checks.due("promise 1: no term", x.isValue(0, 0), false);
        checks.due("promise 1: the first term", 0, () -> x.variable(0));
    }

    /** "no program was checked" */
    private static void nothingWasChecked() {
        SureFunctions x = new SureFunctions();
        checks.due("promise 1: not checked", 0, () -> x.count(5));
        checks.due("promise 1: no graphs", 0, x::graphs);
        checks.state("promise 1: no run before a check", () -> x.run(0, 0, 0, 0));
        checks.due("promise 8: nothing declared is all so", 0, x::check);
        checks.due("promise 14: nothing declared, and checked", 1, () -> x.count(5));
        checks.due("promise 9: nothing declared has no graphs", 0, x::graphs);
        checks.argument("promise 12: nothing declared has no function", () -> x.run(0, 0, 0, 0));
    }

    /** "nothing was run" */
    private static void nothingWasRun() {
        Edge edge = new Edge(checks, SureFunctions::new);
        edge.allowed("promise 1: no steps", 0, x -> x.count(0));
        edge.index("promise 1: no answer", x -> x.answer(0));
    }

    private static void objectsAreApart() {
        SureFunctions x = Programs.numbers();
        SureFunctions y = new SureFunctions();
        x.function(0, 0, -1, -1);
        int v = x.variable(0);
        x.clause(0, v, 0, 0, v);
        x.check();
        x.run(0, x.make(0, 0, 0, 0), 0, 0);
        for (int n = 0; n <= 5; n++) {
            int what = n;
            checks.due("promise 1: count(" + n + ") beside another object", 0, () -> y.count(what));
        }
    }

    private void all() {
        types();
        typesInEachPlace();
        behindNone();
        numbersAndMost();
        wrongAndFull();
    }

    /** "TYPES are 0 .. 2"; "IllegalArgumentException when type is not 0 .. 2" */
    private void types() {
        Edge edge = new Edge(checks, SureFunctions::new);
        for (int n = 0; n <= 2; n++) {
            int type = n;
            edge.allowed(promise + " of type " + n, 0, x -> declaring.on(x, type, -1, -1, -1));
        }
        edge.argument(promise + " of type -1", x -> declaring.on(x, -1, -1, -1, -1));
        edge.argument(promise + " of type 3", x -> declaring.on(x, 3, -1, -1, -1));
        for (int type : Programs.FAR) {
            edge.argument(promise + " of a far type", x -> declaring.on(x, type, -1, -1, -1));
        }
    }

    /** "or a part's is not -1 .. 2", in each of the "up to three" places. */
    private void typesInEachPlace() {
        Edge edge = new Edge(checks, SureFunctions::new);
        for (int place = 0; place < 3; place++) {
            for (int type = -1; type <= 2; type++) {
                int[] p = placed(place, type);
                edge.allowed(promise + " with " + type + " in place " + place, 0,
                        x -> declaring.on(x, 0, p[0], p[1], p[2]));
            }
            for (int type : new int[] {-2, 3, Programs.FAR[0], Programs.FAR[1]}) {
                int[] p = placed(place, type);
                edge.argument(promise + " with " + type + " in place " + place,
                        x -> declaring.on(x, 0, p[0], p[1], p[2]));
            }
        }
    }

    private static int[] placed(int place, int type) {
        int[] places = {2, 2, 2};
        places[place] = type;
        return places;
    }

    /** "(-1 for none; what is behind a -1 is not looked at)" */
    private void behindNone() {
        Edge edge = new Edge(checks, SureFunctions::new);
        for (int behind : new int[] {-2, 3, Programs.FAR[0], Programs.FAR[1]}) {
            edge.allowed(promise + " with " + behind + " behind a first -1", 0,
                    x -> declaring.on(x, 0, -1, behind, behind));
            edge.allowed(promise + " with " + behind + " behind a second -1", 0,
                    x -> declaring.on(x, 0, 0, -1, behind));
            edge.argument(promise + " with " + behind + " before a -1", x -> declaring.on(x, 0, behind, -1, -1));
        }
    }

    /** "numbered 0, 1, .., at most eight"; "IllegalStateException when there are eight"; "when there are six" */
    private void numbersAndMost() {
        SureFunctions x = new SureFunctions();
        for (int n = 0; n < most; n++) {
            int type = n % 3;
            checks.due(promise + " number " + n, n, () -> declaring.on(x, type, -1, -1, -1));
        }
        checks.due(promise + ": so many", most, () -> x.count(counted));
        Edge last = new Edge(checks, () -> with(most - 1));
        last.allowed(promise + ": the last", most - 1, y -> declaring.on(y, 0, 0, 0, 0));
        Edge full = new Edge(checks, () -> with(most));
        full.state(promise + ": one too many", y -> declaring.on(y, 0, -1, -1, -1));
        full.state(promise + ": one too many, of three", y -> declaring.on(y, 2, 2, 2, 2));
    }

    /** "if several exceptions are due that one is thrown which the call names first" */
    private void wrongAndFull() {
        Edge full = new Edge(checks, () -> with(most));
        full.argument(promise + ": full, and type 3", x -> declaring.on(x, 3, -1, -1, -1));
        full.argument(promise + ": full, and type -1", x -> declaring.on(x, -1, -1, -1, -1));
        for (int place = 0; place < 3; place++) {
            int[] p = placed(place, 3);
            full.argument(promise + ": full, and 3 in place " + place, x -> declaring.on(x, 0, p[0], p[1], p[2]));
        }
    }

    private SureFunctions with(int many) {
        SureFunctions x = new SureFunctions();
        for (int n = 0; n < many; n++) {
            declaring.on(x, 0, n % 2 - 1, -1, -1);
        }
        return x;
    }

    /** "each has a type that it makes, and up to three types of PARTS": each type in each place is the one declared. */
    private static void partsAreOfTheirTypes() {
        for (int n = 0; n < 27; n++) {
            SureFunctions x = new SureFunctions();
            for (int type = 0; type < 3; type++) {
                x.constructor(type, -1, -1, -1);
                x.make(type, 0, 0, 0);
            }
            int a = n % 3;
            int b = n / 3 % 3;
            int c = n / 9;
            x.constructor(n % 2, a, b, c);
            int one = x.make(3, a, b, c);
            checks.due("promise 2: parts " + a + b + c, x.isValue(one, n % 2), true);
            checks.due("promise 2: another type", x.isValue(one, 1 - n % 2), false);
            checks.due("promise 2: another first part", x.isValue(x.make(3, (a + 1) % 3, b, c), n % 2), false);
            checks.due("promise 2: another second part", x.isValue(x.make(3, a, (b + 1) % 3, c), n % 2), false);
            checks.due("promise 2: another third part", x.isValue(x.make(3, a, b, (c + 1) % 3), n % 2), false);
        }
    }

    /** "each with the type of its answer and up to three types of ARGUMENTS" */
    private static void argumentsAreOfTheirTypes() {
        for (int n = 0; n < 27; n++) {
            int a = n % 3;
            int b = n / 3 % 3;
            int c = n / 9;
            int answer = (n + 1) % 3;
            checks.due("promise 3: arguments " + a + b + c, takes(answer, a, b, c, a, b, c, answer), "0");
            checks.due("promise 3: another first", takes(answer, a, b, c, (a + 1) % 3, b, c, answer), "2");
            checks.due("promise 3: another second", takes(answer, a, b, c, a, (b + 1) % 3, c, answer), "2");
            checks.due("promise 3: another third", takes(answer, a, b, c, a, b, (c + 1) % 3, answer), "2");
            checks.due("promise 3: another answer", takes(answer, a, b, c, a, b, c, (answer + 1) % 3), "2");
        }
    }

    /** What check says when a function of some types has a clause with patterns, and a body, of others. */
    private static String takes(int type, int a, int b, int c, int p, int q, int r, int body) {
        SureFunctions x = new SureFunctions();
        for (int t = 0; t < 3; t++) {
            x.constructor(t, -1, -1, -1);
            x.make(t, 0, 0, 0);
        }
        x.function(type, a, b, c);
        x.clause(0, p, q, r, body);
        return Checks.told(x::check);
    }
}
