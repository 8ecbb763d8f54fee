import java.util.ArrayList;
import java.util.Arrays;
import java.util.List;
import java.util.Random;

/**
 * All promises, against the model, over many drawn runs of calls: wild ones, in which any number may stand anywhere;
 * sensible ones, whose programs are mostly typed and covered; descending ones, which end but may run long; and
 * shuffling ones, whose calls hand their arguments round. The draws are the same each time.
 */
public final class ModelTest {
    private static final int WILD = 1500;
    private static final int SENSIBLE = 3000;
    private static final int DESCENDING = 3000;
    private static final int SHUFFLING = 600;
    private static final long ROWS_MOST = 20000;

    private static final Checks checks = new Checks();
    private static final int[] verdicts = new int[5];
    private static int answered;
    private static int endedAtSteps;
    private static int endedOtherwise;
    private static int manyGraphs;
    private static int tooManyGraphs;

    private final Random random;
    private final Twin twin;
    private final int[] variableTerm = new int[8];
    private boolean descending;
    private boolean shuffling;

    private ModelTest(String name, long seed) {
        random = new Random(seed);
        twin = new Twin(name + " " + seed, checks);
        Arrays.fill(variableTerm, Twin.THREW);
    }

    public static void main(String[] args) {
        for (int i = 0; i < WILD; i++) {
            new ModelTest("wild", i).wild();
        }
        for (int i = 0; i < SENSIBLE; i++) {
            new ModelTest("sensible", i).sensible(1 + i % 3);
        }
        for (int i = 0; i < DESCENDING; i++) {
            ModelTest test = new ModelTest("descending", i);
            test.descending = true;
            test.sensible(i % 4 == 0 ? 2 : 1);
        }
        for (int i = 0; i < SHUFFLING; i++) {
            ModelTest test = new ModelTest("shuffling", i);
            test.shuffling = true;
            test.sensible(1);
        }
        System.out.println("verdicts " + Arrays.toString(verdicts) + ", runs answered " + answered + ", ended at steps "
                + endedAtSteps + ", otherwise " + endedOtherwise + ", checks with over 50 graphs " + manyGraphs
                + ", over 200 " + tooManyGraphs);
        for (int verdict = 0; verdict < verdicts.length; verdict++) {
            checks.due("verdict " + verdict + " was drawn often", verdicts[verdict] > 50, true);
        }
        checks.due("runs with an answer", answered > 500, true);
        checks.due("runs without an answer", endedAtSteps > 20 && endedOtherwise > 20, true);
        checks.due("checks with many graphs, and too many", manyGraphs > 10 && tooManyGraphs > 5, true);
        checks.end();
    }

    private int near(int most) {
        return random.nextInt(12) == 0 ? random.nextInt(most + 6) - 3 : random.nextInt(Math.max(most, 1));
    }

    private int checked() {
        if (twin.model.rowsToCount() > ROWS_MOST) {
            return Twin.THREW;
        }
        int verdict = twin.check();
        verdicts[verdict]++;
        int graphs = twin.graphs();
        manyGraphs += graphs > 50 ? 1 : 0;
        tooManyGraphs += graphs > 200 ? 1 : 0;
        return verdict;
    }

    private void runOnce(int function, int x, int y, int z) {
        int size = twin.run(function, x, y, z);
        if (size == Twin.THREW) {
            return;
        }
        answered += size > 0 ? 1 : 0;
        int steps = twin.count(0);
        endedAtSteps += size == 0 && steps == 200 ? 1 : 0;
        endedOtherwise += size == 0 && steps < 200 ? 1 : 0;
        for (int i = -1; i <= size; i++) {
            twin.answer(i);
        }
    }

    private void wild() {
        for (int i = 0; i < 300; i++) {
            wildCall();
        }
        for (int what = -2; what < 8; what++) {
            twin.count(what);
        }
    }

    private void wildCall() {
        int terms = twin.model.terms.size();
        int constructors = twin.model.constructors.size();
        int functions = twin.model.functions.size();
        int clauses = twin.model.rules.size();
        int draw = random.nextInt(40);
        if (draw < 2) {
            twin.constructor(near(3), random.nextInt(3) > 0 ? -1 : near(3), near(4) - 1, near(4) - 1);
        } else if (draw < 3) {
            twin.function(near(3), near(4) - 1, near(4) - 1, near(4) - 1);
        } else if (draw < 6) {
            twin.variable(near(8));
        } else if (draw < 12) {
            twin.make(near(constructors), near(terms), near(terms), near(terms));
        } else if (draw < 15) {
            twin.call(near(functions), near(terms), near(terms), near(terms));
        } else if (draw < 25) {
            twin.clause(near(functions), near(terms), near(terms), near(terms), near(terms));
        } else if (draw < 27) {
            checked();
        } else if (draw < 32) {
            twin.arc(near(clauses), near(3), near(3), near(3));
        } else if (draw < 36) {
            twin.isValue(near(terms), near(3));
        } else if (draw < 38) {
            runOnce(near(functions), near(terms), near(terms), near(terms));
        } else {
            twin.count(near(6));
        }
    }

    private void sensible(int howManyTypes) {
        types = howManyTypes;
        declareConstructors();
        int functions = 1 + random.nextInt(3) + (descending ? 0 : random.nextInt(2));
        for (int f = 0; f < functions; f++) {
            int b = shuffling ? 0 : random.nextInt(types + 1) - 1;
            int c = shuffling ? 0 : random.nextInt(types + 1) - 1;
            twin.function(type(), type(), b, c);
        }
        makeValues();
        boolean plain = !shuffling && random.nextInt(3) > 0;
        for (int f = 0; f < functions; f++) {
            writeClauses(f, plain);
        }
        int verdict = checked();
        lookAtArcs();
        if (verdict == 0) {
            lookAtRuns();
            twin.count(0);
        }
        twin.variable(1);
        twin.count(5);
        twin.constructor(0, -1, -1, -1);
        twin.count(5);
        twin.graphs();
        runOnce(0, 0, 0, 0);
        twin.answer(0);
    }

    private int types;

    private int type() {
        return random.nextInt(types);
    }

    private void declareConstructors() {
        for (int t = 0; t < types; t++) {
            if (random.nextInt(60) > 0) {
                twin.constructor(t, -1, 9, 9);
            }
        }
        int more = 1 + random.nextInt(3);
        for (int i = 0; i < more; i++) {
            twin.constructor(type(), type(), random.nextInt(3) > 0 ? -1 : type(), random.nextInt(3) > 0 ? -1 : type());
        }
    }

    /** A pattern that is still open: its type, its variable or its constructor and parts. */
    private static final class Open {
        final int type;
        final int depth;
        final int constructor;
        final Open[] parts;

        Open(int type, int depth, int constructor, Open[] parts) {
            this.type = type;
            this.depth = depth;
            this.constructor = constructor;
            this.parts = parts;
        }
    }

    private Open hole(int type, int depth) {
        return new Open(type, depth, -1, new Open[0]);
    }

    private Open filled(int constructor, int depth) {
        int[] takes = twin.model.constructors.get(constructor).takes;
        Open[] parts = new Open[takes.length];
        for (int i = 0; i < takes.length; i++) {
            parts[i] = hole(takes[i], depth + 1);
        }
        return new Open(twin.model.constructors.get(constructor).type, depth, constructor, parts);
    }

    private static void holes(Open[] row, List<Open> into) {
        for (Open open : row) {
            if (open.constructor < 0) {
                into.add(open);
            }
            holes(open.parts, into);
        }
    }

    private static Open[] replaced(Open[] row, Open old, Open with) {
        Open[] fresh = new Open[row.length];
        for (int i = 0; i < row.length; i++) {
            Open[] parts = replaced(row[i].parts, old, with);
            fresh[i] = row[i] == old ? with : row[i].constructor < 0 ? row[i]
                    : new Open(row[i].type, row[i].depth, row[i].constructor, parts);
        }
        return fresh;
    }

    private List<Open[]> split(Open[] row) {
        List<Open> open = new ArrayList<>();
        holes(row, open);
        open.removeIf(hole -> hole.depth > 1);
        List<Open[]> rows = new ArrayList<>();
        if (open.isEmpty()) {
            rows.add(row);
            return rows;
        }
        boolean first = descending && row[0].constructor < 0;
        Open at = first ? row[0] : open.get(random.nextInt(open.size()));
        for (int c = 0; c < twin.model.constructors.size(); c++) {
            if (twin.model.constructors.get(c).type == at.type) {
                rows.add(replaced(row, at, filled(c, at.depth)));
            }
        }
        return rows;
    }

    private void writeClauses(int function, boolean plain) {
        int[] takes = twin.model.functions.get(function).takes;
        Open[] start = new Open[takes.length];
        for (int i = 0; i < takes.length; i++) {
            start[i] = hole(takes[i], 0);
        }
        List<Open[]> rows = new ArrayList<>();
        rows.add(start);
        int splits = descending ? 1 + random.nextInt(2) : random.nextInt(5);
        for (int i = 0; i < splits && rows.size() <= 6 && !rows.isEmpty(); i++) {
            int at = random.nextInt(rows.size());
            List<Open[]> parts = split(rows.get(at));
            if (rows.size() - 1 + parts.size() <= 6) {
                // What is left of a row often stands behind its parts, so that the order tells.
                Open[] whole = rows.remove(at);
                rows.addAll(at, parts);
                if (random.nextInt(4) == 0 && rows.size() < 6) {
                    rows.add(whole);
                    rows.remove(random.nextInt(rows.size()));
                }
            }
        }
        if (random.nextInt(25) == 0 && !rows.isEmpty()) {
            rows.remove(random.nextInt(rows.size()));
        }
        for (Open[] row : rows) {
            writeClause(function, row, plain);
        }
    }

    private int writing;
    private final List<Integer> smaller = new ArrayList<>();
    private final List<Integer> known = new ArrayList<>();
    private final List<Integer> knownType = new ArrayList<>();
    private int nextVariable;

    private int pattern(Open open) {
        int term;
        if (open.constructor < 0) {
            int v = nextVariable++;
            if (v > 7) {
                return Twin.THREW;
            }
            if (variableTerm[v] == Twin.THREW) {
                variableTerm[v] = twin.variable(v);
            }
            term = variableTerm[v];
        } else {
            int[] parts = new int[3];
            for (int i = 0; i < open.parts.length; i++) {
                parts[i] = pattern(open.parts[i]);
            }
            term = twin.make(open.constructor, parts[0], parts[1], parts[2]);
        }
        known.add(term);
        knownType.add(open.type);
        return term;
    }

    private void writeClause(int function, Open[] row, boolean plain) {
        known.clear();
        knownType.clear();
        nextVariable = 0;
        int[] patterns = {0, 0, 0};
        for (int i = 0; i < row.length; i++) {
            patterns[i] = pattern(row[i]);
        }
        writing = function;
        findSmaller(patterns[0]);
        int type = random.nextInt(80) == 0 ? random.nextInt(3) : twin.model.functions.get(function).type;
        int body = body(type, plain ? 2 + random.nextInt(2) : descending ? 3 + random.nextInt(2) : 4);
        twin.clause(function, patterns[0], patterns[1], patterns[2], body);
    }

    /** The parts of the first pattern that have the type of the whole: a call of the same function may go on there. */
    private void findSmaller(int pattern) {
        smaller.clear();
        for (int i = 0; i < known.size(); i++) {
            boolean there = known.get(i) >= 0 && pattern >= 0;
            if (there && twin.model.terms.get(known.get(i)).within(twin.model.terms.get(pattern))
                    && knownType.get(i) == twin.model.functions.get(writing).takes[0]) {
                smaller.add(known.get(i));
            }
        }
    }

    private boolean mayCall(int f) {
        return !descending || f < writing || f == writing && !smaller.isEmpty();
    }

    private int knownOf(int type) {
        int start = random.nextInt(Math.max(known.size(), 1));
        for (int i = 0; i < known.size(); i++) {
            int at = (start + i) % known.size();
            if (knownType.get(at) == type) {
                return known.get(at);
            }
        }
        return Twin.THREW;
    }

    private int body(int type, int depth) {
        int found = knownOf(type);
        int draw = random.nextInt(10);
        if (found != Twin.THREW && (depth <= 0 || draw < (descending ? 1 : 2))) {
            return found;
        }
        return draw < 7 && depth > 0 ? calling(type, depth) : making(type, depth);
    }

    private int making(int type, int depth) {
        List<Integer> ways = new ArrayList<>();
        for (int c = 0; c < twin.model.constructors.size(); c++) {
            Model.Head head = twin.model.constructors.get(c);
            if (head.type == type && (depth > 0 || head.takes.length == 0)) {
                ways.add(c);
            }
        }
        if (ways.isEmpty()) {
            return 0;
        }
        int best = ways.get(random.nextInt(ways.size()));
        int[] takes = twin.model.constructors.get(best).takes;
        int[] parts = {0, 0, 0};
        for (int i = 0; i < takes.length; i++) {
            parts[i] = body(takes[i], depth - 1);
        }
        return twin.make(best, parts[0], parts[1], parts[2]);
    }

    private int calling(int type, int depth) {
        int start = descending && random.nextInt(3) > 0 ? writing : random.nextInt(6);
        for (int i = 0; i < 6; i++) {
            int f = (start + i) % 6;
            if (f < twin.model.functions.size() && twin.model.functions.get(f).type == type && mayCall(f)) {
                int[] takes = twin.model.functions.get(f).takes;
                int[] parts = {0, 0, 0};
                for (int j = 0; j < takes.length; j++) {
                    int found = knownOf(takes[j]);
                    boolean deeper = found == Twin.THREW || random.nextInt(shuffling ? 20 : descending ? 2 : 5) == 0;
                    parts[j] = deeper ? body(takes[j], depth - 1) : found;
                }
                if (descending && f == writing) {
                    parts[0] = smaller.get(random.nextInt(smaller.size()));
                }
                return twin.call(f, parts[0], parts[1], parts[2]);
            }
        }
        return making(type, depth);
    }

    private void lookAtArcs() {
        for (int clause = -1; clause <= twin.model.rules.size(); clause++) {
            for (int i = 0; i < 8; i++) {
                twin.arc(clause, random.nextInt(4), near(2), near(2));
            }
            twin.arc(clause, -1, 0, 0);
        }
    }

    private int value(int type, int depth) {
        List<Integer> ways = new ArrayList<>();
        for (int c = 0; c < twin.model.constructors.size(); c++) {
            Model.Head head = twin.model.constructors.get(c);
            if (head.type == type && (depth > 1 ? head.takes.length > 0 : head.takes.length == 0)) {
                ways.add(c);
            }
        }
        if (ways.isEmpty()) {
            return depth > 1 ? value(type, 1) : 0;
        }
        int c = ways.get(random.nextInt(ways.size()));
        int[] takes = twin.model.constructors.get(c).takes;
        int[] parts = {0, 0, 0};
        for (int i = 0; i < takes.length; i++) {
            parts[i] = value(takes[i], depth - 1 - (i > 0 ? random.nextInt(3) : 0));
        }
        return twin.make(c, parts[0], parts[1], parts[2]);
    }

    private void makeValues() {
        for (int i = 0; i < 3; i++) {
            for (int t = 0; t < types; t++) {
                int term = value(t, 2 + 2 * i);
                twin.isValue(term, t);
                twin.isValue(term, (t + 1) % 3);
            }
        }
    }

    private void lookAtRuns() {
        int[] given = new int[3];
        for (int i = 0; i < 6; i++) {
            int f = twin.model.functions.size() - 1 - random.nextInt(twin.model.functions.size());
            int[] takes = twin.model.functions.get(f).takes;
            for (int j = 0; j < takes.length; j++) {
                given[j] = drawnValue(takes[j]);
            }
            runOnce(f, given[0], given[1], given[2]);
        }
    }

    /** A value among the terms, a great one more often than not. */
    private int drawnValue(int type) {
        List<Integer> values = new ArrayList<>();
        for (int term = 0; term < twin.model.terms.size(); term++) {
            if (twin.model.isValue(term, type)) {
                values.add(term);
            }
        }
        values.sort((x, y) -> twin.model.terms.get(y).size() - twin.model.terms.get(x).size());
        return values.isEmpty() ? 0 : values.get(random.nextInt(1 + random.nextInt(values.size())));
    }
}
