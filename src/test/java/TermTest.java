/** Promises 4 to 6, sentence by sentence: variables, terms with constructors, and calls likewise. */
public final class TermTest {
    private static final Checks checks = new Checks();

    private interface Joining {
        int on(SureFunctions x, int head, int a, int b, int c);
    }

    private final String promise;
    private final Joining joining;

    private TermTest(String promise, Joining joining) {
        this.promise = promise;
        this.joining = joining;
    }

    public static void main(String[] args) {
        variables();
        newVariableEachTime();
        variablesAreThemselves();
        termsInTheOrderOfMaking();
        new TermTest("promise 5: make", SureFunctions::make).all();
        new TermTest("promise 6: call", SureFunctions::call).all();
        heightOfBothTogether();
        checks.end();
    }

    /** "VARIABLES are 0 .. 7"; "IllegalArgumentException when v is not 0 .. 7" */
    private static void variables() {
        Edge edge = new Edge(checks, Programs::allWidths);
        for (int n = 0; n <= 7; n++) {
            int v = n;
            edge.allowed("promise 4: variable " + n, 0, x -> x.variable(v));
        }
        edge.argument("promise 4: variable -1", x -> x.variable(-1));
        edge.argument("promise 4: variable 8", x -> x.variable(8));
        for (int v : Programs.FAR) {
            edge.argument("promise 4: a far variable", x -> x.variable(v));
        }
    }

    /** "its number (a new one each time)" */
    private static void newVariableEachTime() {
        SureFunctions x = new SureFunctions();
        checks.due("promise 4: the first", 0, () -> x.variable(5));
        checks.due("promise 4: the same variable again", 1, () -> x.variable(5));
        checks.due("promise 4: two terms", 2, () -> x.count(3));
    }

    /** "The term that is variable v": two of them are the same variable exactly if v is the same. */
    private static void variablesAreThemselves() {
        for (int v = 0; v < 8; v++) {
            for (int w = 0; w < 8; w++) {
                SureFunctions x = Programs.allWidths();
                x.variable(v);
                x.variable(w);
                String told = Checks.told(() -> x.clause(2, 0, 1, 0, 0));
                checks.due("promise 4: variables " + v + " and " + w, told,
                        v == w ? "throws.IllegalArgumentException" : "1");
            }
        }
    }

    /** "TERMS are numbered 0, 1, .. in the order of making" */
    private static void termsInTheOrderOfMaking() {
        SureFunctions x = Programs.allWidths();
        checks.due("promise 5: term 0", 0, () -> x.make(0, 0, 0, 0));
        checks.due("promise 4: term 1", 1, () -> x.variable(0));
        checks.due("promise 6: term 2", 2, () -> x.call(3, 0, 1, 1));
        checks.due("promise 5: term 3", 3, () -> x.make(2, 2, 0, 0));
        checks.due("promise 6: term 4", 4, () -> x.call(0, 0, 0, 0));
        checks.due("promise 14: five terms", 5, () -> x.count(3));
    }

    private void all() {
        noSuchHead();
        noSuchPart();
        whatItDoesNotNeed();
        heightOverVariable();
        heightOverNone();
        highestPart();
        sizeOfThree();
        sizeOfTwo();
        sizeOfOne();
        hundredTerms();
        wrongAndFull();
    }

    /** Terms 0 and 1 are variables, 2 is a constant. */
    private static SureFunctions threeTerms() {
        SureFunctions x = Programs.allWidths();
        x.variable(0);
        x.variable(1);
        x.make(0, 0, 0, 0);
        return x;
    }

    /** "when there is no such constructor" */
    private void noSuchHead() {
        Edge edge = new Edge(checks, TermTest::threeTerms);
        edge.allowed(promise + " of the first", 3, x -> joining.on(x, 0, 0, 0, 0));
        edge.allowed(promise + " of the last", 3, x -> joining.on(x, 3, 0, 0, 0));
        edge.argument(promise + " of -1", x -> joining.on(x, -1, 0, 0, 0));
        edge.argument(promise + " of one that isn't there yet", x -> joining.on(x, 4, 0, 0, 0));
        for (int head : Programs.FAR) {
            edge.argument(promise + " of a far one", x -> joining.on(x, head, 0, 0, 0));
        }
    }

    /** "or part", in each place that is needed. */
    private void noSuchPart() {
        Edge edge = new Edge(checks, TermTest::threeTerms);
        for (int n = 1; n <= 3; n++) {
            int width = n;
            for (int place = 0; place < width; place++) {
                int[] first = placed(place, 0);
                int[] last = placed(place, 2);
                edge.allowed(promise + " with the first term", 3,
                        x -> joining.on(x, width, first[0], first[1], first[2]));
                edge.allowed(promise + " with the last term", 3,
                        x -> joining.on(x, width, last[0], last[1], last[2]));
                for (int part : new int[] {-1, 3, 99, 100, Programs.FAR[0], Programs.FAR[1]}) {
                    int[] p = placed(place, part);
                    edge.argument(promise + " of " + width + " with " + part + " in place " + place,
                            x -> joining.on(x, width, p[0], p[1], p[2]));
                }
            }
        }
    }

    private static int[] placed(int place, int part) {
        int[] parts = {1, 1, 1};
        parts[place] = part;
        return parts;
    }

    /** "(what it doesn't need is not looked at)" */
    private void whatItDoesNotNeed() {
        Edge edge = new Edge(checks, TermTest::threeTerms);
        for (int junk : new int[] {-1, 3, 100, Programs.FAR[0], Programs.FAR[1]}) {
            edge.allowed(promise + " of none with " + junk, 3, x -> joining.on(x, 0, junk, junk, junk));
            edge.allowed(promise + " of one with " + junk, 3, x -> joining.on(x, 1, 0, junk, junk));
            edge.allowed(promise + " of two with " + junk, 3, x -> joining.on(x, 2, 0, 1, junk));
        }
        Edge high = new Edge(checks, () -> chain(0, 6));
        high.allowed(promise + " beside what is too high", 7, x -> joining.on(x, 1, 0, 6, 6));
        Edge great = new Edge(checks, TermTest::sizes);
        great.allowed(promise + " beside what is too great", 14, x -> joining.on(x, 2, 0, 0, 8));
    }

    /** Term 0 is a variable (height 0) or a constant (height 1), term i is term 0 inside of constructor 1, i times. */
    private static SureFunctions chain(int ground, int times) {
        SureFunctions x = Programs.allWidths();
        if (ground == 0) {
            x.variable(0);
        } else {
            x.make(0, 0, 0, 0);
        }
        Programs.wrapped(x, 0, times);
        return x;
    }

    /** "HEIGHT is 0 for a variable, otherwise 1 more .. at most 6"; "it would be higher than 6" */
    private void heightOverVariable() {
        new Edge(checks, () -> chain(0, 5)).allowed(promise + " of height 6 over a variable", 6,
                x -> joining.on(x, 1, 5, 0, 0));
        new Edge(checks, () -> chain(0, 6)).argument(promise + " of height 7 over a variable",
                x -> joining.on(x, 1, 6, 0, 0));
    }

    /** "(1 if it has none)" */
    private void heightOverNone() {
        new Edge(checks, () -> chain(1, 4)).allowed(promise + " of height 6 over a constant", 5,
                x -> joining.on(x, 1, 4, 0, 0));
        new Edge(checks, () -> chain(1, 5)).argument(promise + " of height 7 over a constant",
                x -> joining.on(x, 1, 5, 0, 0));
        SureFunctions x = Programs.allWidths();
        joining.on(x, 0, 0, 0, 0);
        for (int i = 1; i <= 5; i++) {
            int below = i - 1;
            checks.due(promise + " without any, and " + i + " over it", i, () -> joining.on(x, 1, below, 0, 0));
        }
        checks.argument(promise + " without any, and six over it", () -> joining.on(x, 1, 5, 0, 0));
    }

    /** "1 more than its highest part or argument has", in each place: neither the first one's nor their sum. */
    private void highestPart() {
        Edge edge = new Edge(checks, () -> chain(0, 6));
        edge.allowed(promise + " with all parts of height 5", 7, x -> joining.on(x, 3, 5, 5, 5));
        for (int place = 0; place < 3; place++) {
            int[] five = placed(place, 5);
            int[] six = placed(place, 6);
            edge.allowed(promise + " with height 5 in place " + place, 7,
                    x -> joining.on(x, 3, five[0], five[1], five[2]));
            edge.argument(promise + " with height 6 in place " + place,
                    x -> joining.on(x, 3, six[0], six[1], six[2]));
        }
        edge.argument(promise + " with height 6 in the second of two", x -> joining.on(x, 2, 0, 6, 0));
    }

    /**
     * Terms by their sizes: 0 1, 1 2, 2 4, 3 7, 4 12, 5 13, 6 14, 7 26, 8 40, 9 39, 10 to 12 as 2, 5 and 8 of calls
     * and variables, 13 a variable.
     */
    private static SureFunctions sizes() {
        SureFunctions x = Programs.allWidths();
        x.make(0, 0, 0, 0);
        x.make(1, 0, 0, 0);
        x.make(3, 0, 0, 0);
        x.make(2, 2, 1, 0);
        x.make(2, 3, 2, 0);
        x.make(3, 2, 2, 2);
        x.make(1, 5, 0, 0);
        x.make(2, 5, 4, 0);
        x.make(3, 5, 5, 5);
        x.make(3, 5, 5, 4);
        x.call(3, 0, 0, 0);
        x.call(3, 10, 10, 10);
        x.make(3, 11, 11, 11);
        x.variable(0);
        return x;
    }

    /** "its SIZE 1 and the sizes of its parts or arguments, at most 40"; "or greater than 40" */
    private void sizeOfThree() {
        Edge edge = new Edge(checks, TermTest::sizes);
        edge.allowed(promise + " of size 40", 14, x -> joining.on(x, 3, 5, 5, 5));
        edge.allowed(promise + " of size 40 over calls", 14, x -> joining.on(x, 3, 11, 11, 11));
        edge.allowed(promise + " of size 40 over unequal parts", 14, x -> joining.on(x, 3, 4, 6, 5));
        edge.argument(promise + " of size 41, the first one more", x -> joining.on(x, 3, 6, 5, 5));
        edge.argument(promise + " of size 41, the second one more", x -> joining.on(x, 3, 5, 6, 5));
        edge.argument(promise + " of size 41, the third one more", x -> joining.on(x, 3, 5, 5, 6));
        edge.argument(promise + " of size 43 over 40 and variables", x -> joining.on(x, 3, 8, 13, 13));
        edge.argument(promise + " of size 121", x -> joining.on(x, 3, 8, 8, 8));
    }

    private void sizeOfTwo() {
        Edge edge = new Edge(checks, TermTest::sizes);
        edge.allowed(promise + " of two of size 40", 14, x -> joining.on(x, 2, 7, 5, 0));
        edge.argument(promise + " of two of size 41", x -> joining.on(x, 2, 7, 6, 0));
        edge.argument(promise + " of two of size 41, turned", x -> joining.on(x, 2, 6, 7, 0));
        edge.argument(promise + " of two of size 42, over a variable", x -> joining.on(x, 2, 13, 12, 0));
    }

    private void sizeOfOne() {
        Edge edge = new Edge(checks, TermTest::sizes);
        edge.allowed(promise + " of one of size 40", 14, x -> joining.on(x, 1, 9, 0, 0));
        edge.argument(promise + " of one of size 41", x -> joining.on(x, 1, 8, 0, 0));
        edge.argument(promise + " of one of size 41, over calls", x -> joining.on(x, 1, 12, 0, 0));
    }

    private static SureFunctions withTerms(int many) {
        SureFunctions x = Programs.allWidths();
        for (int i = 0; i < many - 1; i++) {
            x.variable(i % 8);
        }
        Programs.wrapped(x, x.count(3) - 1, 1);
        return x;
    }

    /** "at most 100"; "IllegalStateException when there are 100 terms" */
    private void hundredTerms() {
        Edge last = new Edge(checks, () -> withTerms(99));
        last.allowed("promise 4: the hundredth term", 99, x -> x.variable(7));
        Edge full = new Edge(checks, () -> withTerms(100));
        full.state("promise 4: the 101st term", x -> x.variable(7));
        for (int n = 0; n <= 3; n++) {
            int width = n;
            last.allowed(promise + ": the hundredth term", 99, x -> joining.on(x, width, 98, 0, 98));
            full.state(promise + ": the 101st term", x -> joining.on(x, width, 99, 0, 99));
        }
    }

    /** "if several exceptions are due that one is thrown which the call names first" */
    private void wrongAndFull() {
        Edge full = new Edge(checks, TermTest::fullAndHigh);
        full.argument("promise 4: full, and variable 8", x -> x.variable(8));
        full.argument("promise 4: full, and variable -1", x -> x.variable(-1));
        full.argument(promise + ": full, and there is none such", x -> joining.on(x, 4, 0, 0, 0));
        full.argument(promise + ": full, and of -1", x -> joining.on(x, -1, 0, 0, 0));
        full.argument(promise + ": full, and with -1", x -> joining.on(x, 2, 0, -1, 0));
        full.argument(promise + ": full, and with itself", x -> joining.on(x, 3, 0, 0, 100));
        full.argument(promise + ": full, and too high", x -> joining.on(x, 1, 99, 0, 0));
        full.argument(promise + ": full, and too great", x -> joining.on(x, 1, 8, 0, 0));
        full.state(promise + ": full, and nothing else", x -> joining.on(x, 3, 0, 0, 0));
    }

    /** Term 8 has size 40, term 99 height 6. */
    private static SureFunctions fullAndHigh() {
        SureFunctions x = sizes();
        for (int term = 14; term < 94; term++) {
            x.variable(0);
        }
        Programs.wrapped(x, 93, 6);
        return x;
    }

    /** Constructors' terms and calls count alike for what stands over them. */
    private static void heightOfBothTogether() {
        SureFunctions x = Programs.allWidths();
        x.variable(0);
        for (int i = 0; i < 3; i++) {
            x.call(1, x.make(1, 2 * i, 0, 0), 0, 0);
        }
        checks.due("heights of both: six in turns", 7, () -> x.count(3));
        checks.argument("promise 5: height 7 over calls", () -> x.make(1, 6, 0, 0));
        checks.argument("promise 6: height 7 over calls", () -> x.call(1, 6, 0, 0));
    }
}
