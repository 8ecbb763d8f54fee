/**
 * A language of functions that always end: values made by constructors, functions by clauses with patterns, a checker
 * for types, coverage and ending, and a machine that runs what passed.
 */
public final class SureFunctions {
    private static final int TYPES = 3;
    private static final int PLACES = 3;
    private static final int VARIABLES = 8;
    private static final int CONSTRUCTORS_MOST = 8;
    private static final int FUNCTIONS_MOST = 6;
    private static final int TERMS_MOST = 100;
    private static final int HEIGHT_MOST = 6;
    private static final int SIZE_MOST = 40;
    private static final int PATTERN_HEIGHT_MOST = 2;
    private static final int PATTERN_SIZE_MOST = 8;
    private static final int CLAUSES_MOST = 24;
    private static final int CLAUSES_OF_ONE_MOST = 6;
    private static final int GRAPHS_MOST = 200;
    private static final int STEPS_MOST = 200;
    private static final int VALUE_SIZE_MOST = 60;
    private static final int VALUES_MADE_MOST = 600;

    private static final int NONE = -1;
    private static final int UNCHECKED = -1;
    private static final int ALL_IS_SO = 0;
    private static final int NOT_INHABITED = 1;
    private static final int NOT_TYPED = 2;
    private static final int NOT_COVERED = 3;
    private static final int NOT_ENDING = 4;

    private final Signatures constructors;
    private final Signatures functions;
    private final Terms terms;
    private final Clauses clauses;
    private final Typing typing;
    private final Coverage coverage;
    private final Ending ending;
    private final Machine machine;
    private int verdict;
    private int graphsOfLatestCheck;

    public SureFunctions() {
        constructors = new Signatures(CONSTRUCTORS_MOST);
        functions = new Signatures(FUNCTIONS_MOST);
        terms = new Terms();
        clauses = new Clauses(functions, terms);
        typing = new Typing(constructors, functions, terms, clauses);
        coverage = new Coverage(constructors, functions, terms, clauses);
        ending = new Ending(functions, terms, clauses);
        machine = new Machine(constructors, functions, terms, clauses);
        verdict = UNCHECKED;
    }

    public int constructor(int type, int a, int b, int c) throws IllegalArgumentException, IllegalStateException {
        if (!areTypes(type, a, b, c)) {
            throw new IllegalArgumentException("no such type");
        }
        if (constructors.isFull()) {
            throw new IllegalStateException("there are eight constructors");
        }
        verdict = UNCHECKED;
        return constructors.declare(type, a, b, c);
    }

    public int function(int type, int a, int b, int c) throws IllegalArgumentException, IllegalStateException {
        if (!areTypes(type, a, b, c)) {
            throw new IllegalArgumentException("no such type");
        }
        if (functions.isFull()) {
            throw new IllegalStateException("there are six functions");
        }
        verdict = UNCHECKED;
        return functions.declare(type, a, b, c);
    }

    public int variable(int v) throws IllegalArgumentException, IllegalStateException {
        if (v < 0 || v >= VARIABLES) {
            throw new IllegalArgumentException("no such variable");
        }
        if (terms.isFull()) {
            throw new IllegalStateException("there are 100 terms");
        }
        return terms.addVariable(v);
    }

    public int make(int constructor, int x, int y, int z) throws IllegalArgumentException, IllegalStateException {
        if (!constructors.has(constructor) || !terms.canJoin(constructors.width(constructor), x, y, z)) {
            throw new IllegalArgumentException("no such constructor or part, or too high or great");
        }
        if (terms.isFull()) {
            throw new IllegalStateException("there are 100 terms");
        }
        return terms.addMade(constructor, constructors.width(constructor), x, y, z);
    }

    public int call(int function, int x, int y, int z) throws IllegalArgumentException, IllegalStateException {
        if (!functions.has(function) || !terms.canJoin(functions.width(function), x, y, z)) {
            throw new IllegalArgumentException("no such function or argument, or too high or great");
        }
        if (terms.isFull()) {
            throw new IllegalStateException("there are 100 terms");
        }
        return terms.addCalled(function, functions.width(function), x, y, z);
    }

    public int clause(int function, int p, int q, int r, int body)
            throws IllegalArgumentException, IllegalStateException {
        if (!functions.has(function) || !clauses.isWellFormed(functions.width(function), p, q, r, body)) {
            throw new IllegalArgumentException("no such function or term, or no clause");
        }
        if (clauses.isFull(function)) {
            throw new IllegalStateException("there are six clauses of the function, or 24 in all");
        }
        verdict = UNCHECKED;
        return clauses.add(function, p, q, r, body);
    }

    public int check() {
        // The same program gets the same verdict, so it is looked through only once.
        if (verdict == UNCHECKED) {
            verdict = findWhatIsWrong();
        }
        return verdict;
    }

    public int graphs() {
        return graphsOfLatestCheck;
    }

    public int arc(int clause, int k, int i, int j) throws IllegalArgumentException {
        if (!clauses.has(clause)) {
            throw new IllegalArgumentException("no such clause");
        }
        int called = ending.callInBody(clause, k);
        if (called == NONE) {
            throw new IllegalArgumentException("no such call");
        }
        int from = functions.width(clauses.owner(clause));
        if (i < 0 || i >= from || j < 0 || j >= terms.width(called)) {
            throw new IllegalArgumentException("no such argument");
        }
        return ending.arcBetween(clauses.pattern(clause, i), terms.part(called, j));
    }

    public boolean isValue(int term, int type) {
        return isType(type) && terms.has(term) && typing.isClosedOfType(term, type);
    }

    public int run(int function, int x, int y, int z) throws IllegalStateException, IllegalArgumentException {
        if (verdict != ALL_IS_SO) {
            throw new IllegalStateException("the program is not checked, or wrong");
        }
        if (!functions.has(function) || !areArguments(function, x, y, z)) {
            throw new IllegalArgumentException("no such function, or an argument is no value of its type");
        }
        return machine.perform(function, x, y, z);
    }

    public int answer(int i) throws IndexOutOfBoundsException {
        if (i < 0 || i >= machine.answerSize()) {
            throw new IndexOutOfBoundsException("no such constructor of an answer");
        }
        return machine.answerAt(i);
    }

    public int count(int what) {
        switch (what) {
            case 0:
                return machine.steps();
            case 1:
                return constructors.howMany();
            case 2:
                return functions.howMany();
            case 3:
                return terms.howMany();
            case 4:
                return clauses.howMany();
            case 5:
                return verdict == ALL_IS_SO ? 1 : 0;
            default:
                return -1;
        }
    }

    private int findWhatIsWrong() {
        graphsOfLatestCheck = 0;
        if (!typing.allInhabited()) {
            return NOT_INHABITED;
        }
        if (!typing.allTyped()) {
            return NOT_TYPED;
        }
        if (!coverage.allCovered()) {
            return NOT_COVERED;
        }
        graphsOfLatestCheck = ending.makeGraphs();
        return ending.allEnd() ? ALL_IS_SO : NOT_ENDING;
    }

    private boolean areArguments(int function, int x, int y, int z) {
        for (int i = 0; i < functions.width(function); i++) {
            if (!isValue(pick(i, x, y, z), functions.placeType(function, i))) {
                return false;
            }
        }
        return true;
    }

    private static boolean isType(int type) {
        return type >= 0 && type < TYPES;
    }

    private static boolean areTypes(int type, int a, int b, int c) {
        if (!isType(type)) {
            return false;
        }
        for (int i = 0; i < leadingPlaces(a, b, c); i++) {
            if (!isType(pick(i, a, b, c))) {
                return false;
            }
        }
        return true;
    }

    /** How many of the three stand before the first -1: the rest is not looked at. */
    private static int leadingPlaces(int a, int b, int c) {
        if (a == NONE) {
            return 0;
        }
        if (b == NONE) {
            return 1;
        }
        return c == NONE ? 2 : PLACES;
    }

    private static int pick(int i, int x, int y, int z) {
        return i == 0 ? x : i == 1 ? y : z;
    }

    /** What is declared of constructors, or of functions: the type of what comes out, and those of what goes in. */
    private static final class Signatures {
        private final int most;
        private final int[] type;
        private final int[] width;
        private final int[] placeType;
        private int many;

        Signatures(int most) {
            this.most = most;
            type = new int[most];
            width = new int[most];
            placeType = new int[most * PLACES];
        }

        int howMany() {
            return many;
        }

        boolean isFull() {
            return many >= most;
        }

        boolean has(int head) {
            return head >= 0 && head < many;
        }

        int type(int head) {
            return type[head];
        }

        int width(int head) {
            return width[head];
        }

        int placeType(int head, int i) {
            return placeType[head * PLACES + i];
        }

        int declare(int itsType, int a, int b, int c) {
            type[many] = itsType;
            width[many] = leadingPlaces(a, b, c);
            for (int i = 0; i < width[many]; i++) {
                placeType[many * PLACES + i] = pick(i, a, b, c);
            }
            return many++;
        }

        int typesUsed() {
            int used = 0;
            for (int head = 0; head < many; head++) {
                used |= 1 << type[head] | typesTaken(head);
            }
            return used;
        }

        int typesTaken(int head) {
            int taken = 0;
            for (int i = 0; i < width[head]; i++) {
                taken |= 1 << placeType[head * PLACES + i];
            }
            return taken;
        }
    }

    /** All terms, each told by its number; what clauses ask of them is found once, when they are made. */
    private static final class Terms {
        private static final int VARIABLE = 0;
        private static final int MADE = 1;
        private static final int CALLED = 2;

        private final int[] kind;
        private final int[] head;
        private final int[] width;
        private final int[] part;
        private final int[] height;
        private final int[] size;
        private final int[] variables;
        private final boolean[] hasCall;
        private final boolean[] hasVariableTwice;
        private int many;

        Terms() {
            kind = new int[TERMS_MOST];
            head = new int[TERMS_MOST];
            width = new int[TERMS_MOST];
            part = new int[TERMS_MOST * PLACES];
            height = new int[TERMS_MOST];
            size = new int[TERMS_MOST];
            variables = new int[TERMS_MOST];
            hasCall = new boolean[TERMS_MOST];
            hasVariableTwice = new boolean[TERMS_MOST];
        }

        int howMany() {
            return many;
        }

        boolean isFull() {
            return many >= TERMS_MOST;
        }

        boolean has(int term) {
            return term >= 0 && term < many;
        }

        boolean isVariable(int term) {
            return kind[term] == VARIABLE;
        }

        boolean isMade(int term) {
            return kind[term] == MADE;
        }

        boolean isCalled(int term) {
            return kind[term] == CALLED;
        }

        /** The number of the variable, the constructor or the function. */
        int head(int term) {
            return head[term];
        }

        int width(int term) {
            return width[term];
        }

        int part(int term, int i) {
            return part[term * PLACES + i];
        }

        int size(int term) {
            return size[term];
        }

        /** The variables in the term, as bits. */
        int variables(int term) {
            return variables[term];
        }

        boolean isPattern(int term) {
            return !hasCall[term] && !hasVariableTwice[term]
                    && height[term] <= PATTERN_HEIGHT_MOST && size[term] <= PATTERN_SIZE_MOST;
        }

        boolean isClosed(int term) {
            return !hasCall[term] && variables[term] == 0;
        }

        boolean canJoin(int itsWidth, int x, int y, int z) {
            int highest = 0;
            int sizes = 1;
            for (int i = 0; i < itsWidth; i++) {
                int joined = pick(i, x, y, z);
                if (!has(joined)) {
                    return false;
                }
                highest = Math.max(highest, height[joined]);
                sizes += size[joined];
            }
            return highest < HEIGHT_MOST && sizes <= SIZE_MOST;
        }

        int addVariable(int v) {
            kind[many] = VARIABLE;
            head[many] = v;
            size[many] = 1;
            variables[many] = 1 << v;
            return many++;
        }

        int addMade(int constructor, int itsWidth, int x, int y, int z) {
            kind[many] = MADE;
            head[many] = constructor;
            return join(itsWidth, x, y, z);
        }

        int addCalled(int function, int itsWidth, int x, int y, int z) {
            kind[many] = CALLED;
            head[many] = function;
            hasCall[many] = true;
            return join(itsWidth, x, y, z);
        }

        private int join(int itsWidth, int x, int y, int z) {
            int term = many;
            int highest = 0;
            int sizes = 1;
            for (int i = 0; i < itsWidth; i++) {
                int joined = pick(i, x, y, z);
                part[term * PLACES + i] = joined;
                highest = Math.max(highest, height[joined]);
                sizes += size[joined];
                hasCall[term] |= hasCall[joined];
                hasVariableTwice[term] |= hasVariableTwice[joined] || (variables[term] & variables[joined]) != 0;
                variables[term] |= variables[joined];
            }
            width[term] = itsWidth;
            height[term] = highest + 1;
            size[term] = sizes;
            many++;
            return term;
        }
    }

    /** All clauses as they came, and those of each function in their order. */
    private static final class Clauses {
        private final Signatures functions;
        private final Terms terms;
        private final int[] owner;
        private final int[] pattern;
        private final int[] body;
        private final int[] ofFunction;
        private final int[] manyOfFunction;
        private int many;

        Clauses(Signatures functions, Terms terms) {
            this.functions = functions;
            this.terms = terms;
            owner = new int[CLAUSES_MOST];
            pattern = new int[CLAUSES_MOST * PLACES];
            body = new int[CLAUSES_MOST];
            ofFunction = new int[FUNCTIONS_MOST * CLAUSES_OF_ONE_MOST];
            manyOfFunction = new int[FUNCTIONS_MOST];
        }

        int howMany() {
            return many;
        }

        boolean isFull(int function) {
            return many >= CLAUSES_MOST || manyOfFunction[function] >= CLAUSES_OF_ONE_MOST;
        }

        boolean has(int clause) {
            return clause >= 0 && clause < many;
        }

        int owner(int clause) {
            return owner[clause];
        }

        int pattern(int clause, int i) {
            return pattern[clause * PLACES + i];
        }

        int body(int clause) {
            return body[clause];
        }

        int howManyOf(int function) {
            return manyOfFunction[function];
        }

        int ofFunction(int function, int i) {
            return ofFunction[function * CLAUSES_OF_ONE_MOST + i];
        }

        boolean isWellFormed(int width, int p, int q, int r, int itsBody) {
            int bound = 0;
            for (int i = 0; i < width; i++) {
                int term = pick(i, p, q, r);
                if (!terms.has(term) || !terms.isPattern(term) || (bound & terms.variables(term)) != 0) {
                    return false;
                }
                bound |= terms.variables(term);
            }
            return terms.has(itsBody) && (terms.variables(itsBody) & ~bound) == 0;
        }

        int add(int function, int p, int q, int r, int itsBody) {
            owner[many] = function;
            body[many] = itsBody;
            for (int i = 0; i < functions.width(function); i++) {
                pattern[many * PLACES + i] = pick(i, p, q, r);
            }
            ofFunction[function * CLAUSES_OF_ONE_MOST + manyOfFunction[function]] = many;
            manyOfFunction[function]++;
            many++;
            return many;
        }
    }

    /** Looks whether all types in use have values, and whether all clauses are typed. */
    private static final class Typing {
        private final Signatures constructors;
        private final Signatures functions;
        private final Terms terms;
        private final Clauses clauses;
        private final int[] variableType;

        Typing(Signatures constructors, Signatures functions, Terms terms, Clauses clauses) {
            this.constructors = constructors;
            this.functions = functions;
            this.terms = terms;
            this.clauses = clauses;
            variableType = new int[VARIABLES];
        }

        boolean allInhabited() {
            int used = constructors.typesUsed() | functions.typesUsed();
            return (used & ~typesWithValues()) == 0;
        }

        private int typesWithValues() {
            int withValues = 0;
            // A round that adds no type is the last that could, so there are no more rounds than types.
            for (int round = 0; round < TYPES; round++) {
                for (int c = 0; c < constructors.howMany(); c++) {
                    if ((constructors.typesTaken(c) & ~withValues) == 0) {
                        withValues |= 1 << constructors.type(c);
                    }
                }
            }
            return withValues;
        }

        boolean allTyped() {
            for (int clause = 0; clause < clauses.howMany(); clause++) {
                if (!isTyped(clause)) {
                    return false;
                }
            }
            return true;
        }

        private boolean isTyped(int clause) {
            int function = clauses.owner(clause);
            for (int i = 0; i < functions.width(function); i++) {
                if (!isPatternOfType(clauses.pattern(clause, i), functions.placeType(function, i))) {
                    return false;
                }
            }
            return isOfType(clauses.body(clause), functions.type(function));
        }

        private boolean isPatternOfType(int term, int type) {
            if (terms.isVariable(term)) {
                variableType[terms.head(term)] = type;
                return true;
            }
            int constructor = terms.head(term);
            if (constructors.type(constructor) != type) {
                return false;
            }
            for (int i = 0; i < terms.width(term); i++) {
                if (!isPatternOfType(terms.part(term, i), constructors.placeType(constructor, i))) {
                    return false;
                }
            }
            return true;
        }

        boolean isClosedOfType(int term, int type) {
            return terms.isClosed(term) && isOfType(term, type);
        }

        /** Variables have the types that the patterns gave them last: what is asked here has theirs alone, or none. */
        private boolean isOfType(int term, int type) {
            int head = terms.head(term);
            if (terms.isVariable(term)) {
                return variableType[head] == type;
            }
            Signatures signatures = terms.isMade(term) ? constructors : functions;
            if (signatures.type(head) != type) {
                return false;
            }
            for (int i = 0; i < terms.width(term); i++) {
                if (!isOfType(terms.part(term, i), signatures.placeType(head, i))) {
                    return false;
                }
            }
            return true;
        }
    }

    /**
     * Looks for a row of values that no clause matches. Patterns see no deeper than the parts of a value, so a row is
     * told by slots: for each argument its constructor and those of its parts, each of them open or filled.
     */
    private static final class Coverage {
        private static final int SLOTS_OF_ONE = 1 + PLACES;
        private static final int SLOTS = PLACES * SLOTS_OF_ONE;
        private static final int MATCHES = SLOTS;
        private static final int DIFFERS = SLOTS + 1;

        private final Signatures constructors;
        private final Signatures functions;
        private final Terms terms;
        private final Clauses clauses;
        private final int[] wanted;
        private final int[] filled;

        Coverage(Signatures constructors, Signatures functions, Terms terms, Clauses clauses) {
            this.constructors = constructors;
            this.functions = functions;
            this.terms = terms;
            this.clauses = clauses;
            wanted = new int[CLAUSES_OF_ONE_MOST * SLOTS];
            filled = new int[SLOTS];
        }

        boolean allCovered() {
            for (int function = 0; function < functions.howMany(); function++) {
                readPatterns(function);
                for (int slot = 0; slot < SLOTS; slot++) {
                    filled[slot] = NONE;
                }
                if (!isCovered(function, 0)) {
                    return false;
                }
            }
            return true;
        }

        private void readPatterns(int function) {
            for (int row = 0; row < clauses.howManyOf(function); row++) {
                int clause = clauses.ofFunction(function, row);
                for (int slot = 0; slot < SLOTS; slot++) {
                    wanted[row * SLOTS + slot] = NONE;
                }
                for (int i = 0; i < functions.width(function); i++) {
                    readPattern(clauses.pattern(clause, i), row * SLOTS + i * SLOTS_OF_ONE);
                }
            }
        }

        private void readPattern(int term, int at) {
            if (!terms.isMade(term)) {
                return;
            }
            wanted[at] = terms.head(term);
            for (int i = 0; i < terms.width(term); i++) {
                int part = terms.part(term, i);
                if (terms.isMade(part)) {
                    wanted[at + 1 + i] = terms.head(part);
                }
            }
        }

        /** Whether all rows of values with the filled slots match; each level fills one slot more. */
        private boolean isCovered(int function, int level) {
            int split = SLOTS;
            int openRows = 0;
            for (int row = 0; row < clauses.howManyOf(function); row++) {
                int found = compare(row);
                if (found == MATCHES) {
                    return true;
                }
                if (found != DIFFERS) {
                    split = Math.min(split, found);
                    openRows |= 1 << row;
                }
            }
            if (openRows == 0 || level >= SLOTS) {
                return false;
            }
            boolean covered = isCoveredWhenSplit(function, split, openRows, level);
            filled[split] = NONE;
            return covered;
        }

        private boolean isCoveredWhenSplit(int function, int slot, int openRows, int level) {
            int type = slotType(function, slot);
            int unnamed = constructorThatNoneNames(slot, openRows, type);
            if (unnamed != NONE) {
                // The clauses that match it don't look at this slot: what they cover here they cover for all others.
                filled[slot] = unnamed;
                return isCovered(function, level + 1);
            }
            for (int c = 0; c < constructors.howMany(); c++) {
                if (constructors.type(c) != type) {
                    continue;
                }
                filled[slot] = c;
                if (!isCovered(function, level + 1)) {
                    return false;
                }
            }
            return true;
        }

        private int constructorThatNoneNames(int slot, int openRows, int type) {
            for (int c = 0; c < constructors.howMany(); c++) {
                if (constructors.type(c) == type && !isNamed(slot, openRows, c)) {
                    return c;
                }
            }
            return NONE;
        }

        /** MATCHES, DIFFERS, or the first slot that must be filled to tell. */
        private int compare(int row) {
            int found = MATCHES;
            for (int slot = 0; slot < SLOTS; slot++) {
                int constructor = wanted[row * SLOTS + slot];
                if (constructor == NONE) {
                    continue;
                }
                if (filled[slot] == NONE) {
                    found = Math.min(found, slot);
                } else if (filled[slot] != constructor) {
                    return DIFFERS;
                }
            }
            return found;
        }

        private boolean isNamed(int slot, int openRows, int constructor) {
            for (int row = 0; row < CLAUSES_OF_ONE_MOST; row++) {
                if ((openRows >> row & 1) == 1 && wanted[row * SLOTS + slot] == constructor) {
                    return true;
                }
            }
            return false;
        }

        private int slotType(int function, int slot) {
            int argument = slot / SLOTS_OF_ONE;
            int inside = slot % SLOTS_OF_ONE;
            if (inside == 0) {
                return functions.placeType(function, argument);
            }
            int outer = filled[argument * SLOTS_OF_ONE];
            return outer == NONE ? NONE : constructors.placeType(outer, inside - 1);
        }
    }

    /**
     * Makes the graphs of all calls and of what comes by composition. A graph is one number: the functions that it
     * comes from and goes to, nine bits for its strict arcs and nine for all arcs, the arc from i to j at 3 * i + j.
     */
    private static final class Ending {
        private static final int WEAK = 1;
        private static final int STRICT = 2;
        private static final int ARC_BITS = PLACES * PLACES;
        private static final int ARC_MASK = (1 << ARC_BITS) - 1;
        private static final int FUNCTION_BITS = 3;
        private static final int FUNCTION_MASK = (1 << FUNCTION_BITS) - 1;
        private static final int FIRST_COLUMN = 0b001001001;
        private static final int FIRST_ROW = 0b111;
        private static final int DIAGONAL = 0b100010001;
        private static final int TABLE = 512;
        private static final int TABLE_SHIFT = 23;
        private static final int SPREAD = 0x9E3779B1;

        private final Signatures functions;
        private final Terms terms;
        private final Clauses clauses;
        private final int[] calls;
        private int manyCalls;
        private final int[] graph;
        private int manyGraphs;
        private boolean tooMany;
        private final int[] table;

        Ending(Signatures functions, Terms terms, Clauses clauses) {
            this.functions = functions;
            this.terms = terms;
            this.clauses = clauses;
            calls = new int[SIZE_MOST];
            graph = new int[GRAPHS_MOST];
            table = new int[TABLE];
        }

        int callInBody(int clause, int k) {
            collectCalls(clause);
            return k >= 0 && k < manyCalls ? calls[k] : NONE;
        }

        private void collectCalls(int clause) {
            manyCalls = 0;
            collectCallsIn(clauses.body(clause));
        }

        private void collectCallsIn(int term) {
            if (terms.isCalled(term) && manyCalls < SIZE_MOST) {
                calls[manyCalls] = term;
                manyCalls++;
            }
            for (int i = 0; i < terms.width(term); i++) {
                collectCallsIn(terms.part(term, i));
            }
        }

        int arcBetween(int pattern, int argument) {
            if (isSame(pattern, argument)) {
                return WEAK;
            }
            return isInside(pattern, argument) ? STRICT : 0;
        }

        private boolean isSame(int pattern, int term) {
            if (terms.isVariable(pattern) || terms.isVariable(term)) {
                return terms.isVariable(pattern) && terms.isVariable(term) && terms.head(pattern) == terms.head(term);
            }
            if (!terms.isMade(term) || terms.head(pattern) != terms.head(term)) {
                return false;
            }
            for (int i = 0; i < terms.width(pattern); i++) {
                if (!isSame(terms.part(pattern, i), terms.part(term, i))) {
                    return false;
                }
            }
            return true;
        }

        private boolean isInside(int pattern, int term) {
            for (int i = 0; i < terms.width(pattern); i++) {
                int part = terms.part(pattern, i);
                if (isSame(part, term) || isInside(part, term)) {
                    return true;
                }
            }
            return false;
        }

        /** Makes all graphs: how many there are, one more than the most if there would be too many. */
        int makeGraphs() {
            manyGraphs = 0;
            tooMany = false;
            for (int i = 0; i < TABLE; i++) {
                table[i] = NONE;
            }
            for (int clause = 0; clause < clauses.howMany() && !tooMany; clause++) {
                collectCalls(clause);
                for (int k = 0; k < manyCalls; k++) {
                    addGraph(graphOf(clause, calls[k]));
                }
            }
            addCompositions(manyGraphs);
            return tooMany ? GRAPHS_MOST + 1 : manyGraphs;
        }

        /** Composition is associative, so every graph is one of calls or comes from one more call behind another. */
        private void addCompositions(int manyOfCalls) {
            for (int first = 0; first < GRAPHS_MOST && first < manyGraphs && !tooMany; first++) {
                for (int second = 0; second < manyOfCalls; second++) {
                    if (to(graph[first]) == from(graph[second])) {
                        addGraph(compose(graph[first], graph[second]));
                    }
                }
            }
        }

        private int graphOf(int clause, int called) {
            int arcs = 0;
            int strict = 0;
            int function = clauses.owner(clause);
            for (int i = 0; i < functions.width(function); i++) {
                for (int j = 0; j < terms.width(called); j++) {
                    int arc = arcBetween(clauses.pattern(clause, i), terms.part(called, j));
                    int bit = 1 << (PLACES * i + j);
                    arcs |= arc == 0 ? 0 : bit;
                    strict |= arc == STRICT ? bit : 0;
                }
            }
            return code(function, terms.head(called), arcs, strict);
        }

        private void addGraph(int code) {
            int at = (code * SPREAD) >>> TABLE_SHIFT;
            for (int probe = 0; probe < TABLE && table[at] != NONE; probe++) {
                if (table[at] == code) {
                    return;
                }
                at = (at + 1) % TABLE;
            }
            if (manyGraphs >= GRAPHS_MOST) {
                tooMany = true;
                return;
            }
            table[at] = code;
            graph[manyGraphs] = code;
            manyGraphs++;
        }

        /**
         * A column has its bits three places apart and a row is three bits wide, so their product carries nothing:
         * it has the bit from i to k exactly if the column has i and the row has k.
         */
        private static int compose(int first, int second) {
            int arcs = 0;
            int strict = 0;
            for (int j = 0; j < PLACES; j++) {
                int column = (arcs(first) >> j) & FIRST_COLUMN;
                int strictColumn = (strict(first) >> j) & FIRST_COLUMN;
                int row = (arcs(second) >> (PLACES * j)) & FIRST_ROW;
                int strictRow = (strict(second) >> (PLACES * j)) & FIRST_ROW;
                arcs |= column * row;
                strict |= strictColumn * row | column * strictRow;
            }
            return code(from(first), to(second), arcs, strict);
        }

        boolean allEnd() {
            if (tooMany) {
                return false;
            }
            for (int i = 0; i < manyGraphs; i++) {
                boolean repeats = from(graph[i]) == to(graph[i]) && compose(graph[i], graph[i]) == graph[i];
                if (repeats && (strict(graph[i]) & DIAGONAL) == 0) {
                    return false;
                }
            }
            return true;
        }

        private static int code(int from, int to, int arcs, int strict) {
            int functionsBits = from << FUNCTION_BITS | to;
            return (functionsBits << ARC_BITS | strict) << ARC_BITS | arcs;
        }

        private static int arcs(int code) {
            return code & ARC_MASK;
        }

        private static int strict(int code) {
            return (code >> ARC_BITS) & ARC_MASK;
        }

        private static int to(int code) {
            return (code >> (2 * ARC_BITS)) & FUNCTION_MASK;
        }

        private static int from(int code) {
            return code >> (2 * ARC_BITS + FUNCTION_BITS);
        }
    }

    /** Values in a run: numbers below 100 are terms that were handed in or parts of them, others the run has made. */
    private static final class Values {
        private final Signatures constructors;
        private final Terms terms;
        private final int[] maker;
        private final int[] part;
        private final int[] size;
        private int many;

        Values(Signatures constructors, Terms terms) {
            this.constructors = constructors;
            this.terms = terms;
            maker = new int[VALUES_MADE_MOST];
            part = new int[VALUES_MADE_MOST * PLACES];
            size = new int[VALUES_MADE_MOST];
        }

        void forgetMade() {
            many = 0;
        }

        boolean isFull() {
            return many >= VALUES_MADE_MOST;
        }

        int maker(int value) {
            return value < TERMS_MOST ? terms.head(value) : maker[value - TERMS_MOST];
        }

        int width(int value) {
            return constructors.width(maker(value));
        }

        int part(int value, int i) {
            return value < TERMS_MOST ? terms.part(value, i) : part[(value - TERMS_MOST) * PLACES + i];
        }

        int size(int value) {
            return value < TERMS_MOST ? terms.size(value) : size[value - TERMS_MOST];
        }

        int add(int constructor, int[] row, int from) {
            maker[many] = constructor;
            size[many] = 1;
            for (int i = 0; i < constructors.width(constructor); i++) {
                part[many * PLACES + i] = row[from + i];
                size[many] += size(row[from + i]);
            }
            many++;
            return TERMS_MOST + many - 1;
        }
    }

    /**
     * Runs calls, with rows of its own for what is open, since the calls of a run may stand deeper in one another than
     * Java's should. Each step has a room, where its variables stand for values; each open term has a frame.
     */
    private static final class Machine {
        // A call's own frame is closed when its step begins, so each step but the last leaves one less than the height.
        private static final int FRAMES_MOST = STEPS_MOST * (HEIGHT_MOST - 1) + 1;
        // An open term that waits for a part holds two values at most.
        private static final int HELD_MOST = FRAMES_MOST * (PLACES - 1) + PLACES;
        // Each frame comes up once for each part and once at its end, each step has a body of at most forty terms.
        private static final int TURNS_MOST = STEPS_MOST * SIZE_MOST * (PLACES + 1);

        private final Signatures functions;
        private final Terms terms;
        private final Clauses clauses;
        private final Values values;
        private final int[] frameTerm;
        private final int[] frameRoom;
        private final int[] frameDone;
        private int frames;
        private final int[] held;
        private int manyHeld;
        private final int[] bound;
        private int steps;
        private boolean ended;
        private final int[] answer;
        private int answerSize;

        Machine(Signatures constructors, Signatures functions, Terms terms, Clauses clauses) {
            this.functions = functions;
            this.terms = terms;
            this.clauses = clauses;
            values = new Values(constructors, terms);
            frameTerm = new int[FRAMES_MOST];
            frameRoom = new int[FRAMES_MOST];
            frameDone = new int[FRAMES_MOST];
            held = new int[HELD_MOST];
            bound = new int[STEPS_MOST * VARIABLES];
            answer = new int[VALUE_SIZE_MOST];
        }

        int steps() {
            return steps;
        }

        int answerSize() {
            return answerSize;
        }

        int answerAt(int i) {
            return answer[i];
        }

        int perform(int function, int x, int y, int z) {
            values.forgetMade();
            steps = 0;
            frames = 0;
            manyHeld = 0;
            ended = false;
            answerSize = 0;
            for (int i = 0; i < functions.width(function); i++) {
                hold(pick(i, x, y, z));
            }
            step(function);
            for (int turn = 0; turn < TURNS_MOST && frames > 0 && !ended; turn++) {
                turn();
            }
            if (!ended && frames == 0 && manyHeld == 1) {
                writeAnswer(held[0]);
            }
            return answerSize;
        }

        private void turn() {
            int top = frames - 1;
            int term = frameTerm[top];
            if (frameDone[top] < terms.width(term)) {
                int next = terms.part(term, frameDone[top]);
                frameDone[top]++;
                open(next, frameRoom[top]);
                return;
            }
            frames--;
            if (terms.isMade(term)) {
                build(terms.head(term), terms.width(term));
            } else {
                step(terms.head(term));
            }
        }

        private void open(int term, int room) {
            if (terms.isVariable(term)) {
                hold(bound[room * VARIABLES + terms.head(term)]);
                return;
            }
            if (frames >= FRAMES_MOST) {
                ended = true;
                return;
            }
            frameTerm[frames] = term;
            frameRoom[frames] = room;
            frameDone[frames] = 0;
            frames++;
        }

        private void hold(int value) {
            if (manyHeld >= HELD_MOST) {
                ended = true;
                return;
            }
            held[manyHeld] = value;
            manyHeld++;
        }

        private void build(int constructor, int width) {
            if (values.isFull() || manyHeld < width) {
                ended = true;
                return;
            }
            manyHeld -= width;
            int value = values.add(constructor, held, manyHeld);
            if (values.size(value) > VALUE_SIZE_MOST) {
                ended = true;
                return;
            }
            hold(value);
        }

        private void step(int function) {
            int width = functions.width(function);
            if (steps >= STEPS_MOST || manyHeld < width) {
                ended = true;
                return;
            }
            int room = steps;
            steps++;
            manyHeld -= width;
            for (int i = 0; i < clauses.howManyOf(function); i++) {
                int clause = clauses.ofFunction(function, i);
                if (matchesAll(clause, width, room)) {
                    open(clauses.body(clause), room);
                    return;
                }
            }
            ended = true;
        }

        /** The arguments are what was held last, and still stands behind what is held. */
        private boolean matchesAll(int clause, int width, int room) {
            for (int i = 0; i < width; i++) {
                if (!matches(clauses.pattern(clause, i), held[manyHeld + i], room)) {
                    return false;
                }
            }
            return true;
        }

        private boolean matches(int pattern, int value, int room) {
            if (terms.isVariable(pattern)) {
                bound[room * VARIABLES + terms.head(pattern)] = value;
                return true;
            }
            if (terms.head(pattern) != values.maker(value)) {
                return false;
            }
            for (int i = 0; i < terms.width(pattern); i++) {
                if (!matches(terms.part(pattern, i), values.part(value, i), room)) {
                    return false;
                }
            }
            return true;
        }

        private void writeAnswer(int value) {
            held[0] = value;
            int waiting = 1;
            while (waiting > 0 && answerSize < VALUE_SIZE_MOST) {
                waiting--;
                int next = held[waiting];
                answer[answerSize] = values.maker(next);
                answerSize++;
                for (int i = values.width(next) - 1; i >= 0; i--) {
                    held[waiting] = values.part(next, i);
                    waiting++;
                }
            }
        }
    }
}
