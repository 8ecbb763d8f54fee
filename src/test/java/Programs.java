/** What several tests start from. */
final class Programs {
    /** Numbers that no parameter's range has, for places in which what stands is refused. */
    static final int[] FAR = {Integer.MIN_VALUE, Integer.MAX_VALUE};

    private Programs() {
    }

    /** Constructors 0 (zero) and 1 (the next of a number) of type 0. */
    static SureFunctions numbers() {
        SureFunctions x = new SureFunctions();
        x.constructor(0, -1, -1, -1);
        x.constructor(0, 0, -1, -1);
        return x;
    }

    /** Constructors 0 .. 3 of type 0 with no part to three parts, and functions 0 .. 3 with no argument to three. */
    static SureFunctions allWidths() {
        SureFunctions x = new SureFunctions();
        for (int width = 0; width <= 3; width++) {
            int a = width > 0 ? 0 : -1;
            int b = width > 1 ? 0 : -1;
            int c = width > 2 ? 0 : -1;
            x.constructor(0, a, b, c);
            x.function(0, a, b, c);
        }
        return x;
    }

    /** The term inside of constructor 1, so many times. */
    static int wrapped(SureFunctions x, int term, int times) {
        int wrapped = term;
        for (int i = 0; i < times; i++) {
            wrapped = x.make(1, wrapped, 0, 0);
        }
        return wrapped;
    }
}
