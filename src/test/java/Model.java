import java.util.ArrayList;
import java.util.Arrays;
import java.util.HashMap;
import java.util.HashSet;
import java.util.List;
import java.util.Map;
import java.util.Set;

/**
 * The document written down a second time, as naively as can be: terms are trees, rows of values are counted out,
 * graphs are composed in all pairs until nothing new comes, runs are plain recursion.
 */
final class Model {
    static final class Head {
        final int type;
        final int[] takes;

        Head(int type, int[] takes) {
            this.type = type;
            this.takes = takes;
        }
    }

    /** kind is v, c or f. */
    static final class Tree {
        final char kind;
        final int head;
        final List<Tree> parts;

        Tree(char kind, int head, List<Tree> parts) {
            this.kind = kind;
            this.head = head;
            this.parts = parts;
        }

        int height() {
            int most = 0;
            for (Tree part : parts) {
                most = Math.max(most, part.height());
            }
            return kind == 'v' ? 0 : 1 + most;
        }

        int size() {
            int sum = 1;
            for (Tree part : parts) {
                sum += part.size();
            }
            return sum;
        }

        void variables(List<Integer> into) {
            if (kind == 'v') {
                into.add(head);
            }
            for (Tree part : parts) {
                part.variables(into);
            }
        }

        void calls(List<Tree> into) {
            if (kind == 'f') {
                into.add(this);
            }
            for (Tree part : parts) {
                part.calls(into);
            }
        }

        boolean within(Tree other) {
            for (Tree part : other.parts) {
                if (part.text().equals(text()) || within(part)) {
                    return true;
                }
            }
            return false;
        }

        String text() {
            StringBuilder text = new StringBuilder().append(kind).append(head).append('(');
            for (Tree part : parts) {
                text.append(part.text()).append(' ');
            }
            return text.append(')').toString();
        }
    }

    static final class Rule {
        final int function;
        final List<Tree> patterns;
        final Tree body;

        Rule(int function, List<Tree> patterns, Tree body) {
            this.function = function;
            this.patterns = patterns;
            this.body = body;
        }
    }

    static final class Graph {
        final int from;
        final int to;
        final int[][] arcs = new int[3][3];

        Graph(int from, int to) {
            this.from = from;
            this.to = to;
        }

        Graph then(Graph next) {
            Graph both = new Graph(from, next.to);
            for (int i = 0; i < 3; i++) {
                for (int j = 0; j < 3; j++) {
                    for (int k = 0; k < 3; k++) {
                        if (arcs[i][j] > 0 && next.arcs[j][k] > 0) {
                            int arc = Math.max(arcs[i][j], next.arcs[j][k]);
                            both.arcs[i][k] = Math.max(both.arcs[i][k], arc);
                        }
                    }
                }
            }
            return both;
        }

        String text() {
            return from + ">" + to + Arrays.deepToString(arcs);
        }
    }

    @SuppressWarnings("serial")
    static final class Ended extends RuntimeException {
    }

    final List<Head> constructors = new ArrayList<>();
    final List<Head> functions = new ArrayList<>();
    final List<Tree> terms = new ArrayList<>();
    final List<Rule> rules = new ArrayList<>();
    private int verdict = -1;
    private int graphs;
    private int steps;
    private int built;
    private List<Integer> answer = new ArrayList<>();

    private static Head head(int type, int a, int b, int c) {
        int[] given = {a, b, c};
        int width = 0;
        while (width < 3 && given[width] != -1) {
            width++;
        }
        int[] takes = Arrays.copyOf(given, width);
        if (type < 0 || type > 2 || Arrays.stream(takes).anyMatch(t -> t < 0 || t > 2)) {
            throw new IllegalArgumentException();
        }
        return new Head(type, takes);
    }

    private int declare(List<Head> heads, int most, Head head) {
        if (heads.size() == most) {
            throw new IllegalStateException();
        }
        heads.add(head);
        verdict = -1;
        return heads.size() - 1;
    }

    int constructor(int type, int a, int b, int c) {
        return declare(constructors, 8, head(type, a, b, c));
    }

    int function(int type, int a, int b, int c) {
        return declare(functions, 6, head(type, a, b, c));
    }

    private int keep(Tree tree) {
        if (tree.height() > 6 || tree.size() > 40) {
            throw new IllegalArgumentException();
        }
        if (terms.size() == 100) {
            throw new IllegalStateException();
        }
        terms.add(tree);
        return terms.size() - 1;
    }

    private static <T> T existing(List<T> all, int i) {
        if (i < 0 || i >= all.size()) {
            throw new IllegalArgumentException();
        }
        return all.get(i);
    }

    private List<Tree> taken(int width, int... numbers) {
        List<Tree> found = new ArrayList<>();
        for (int i = 0; i < width; i++) {
            found.add(existing(terms, numbers[i]));
        }
        return found;
    }

    int variable(int v) {
        if (v < 0 || v > 7) {
            throw new IllegalArgumentException();
        }
        return keep(new Tree('v', v, List.of()));
    }

    int make(int constructor, int x, int y, int z) {
        int width = existing(constructors, constructor).takes.length;
        return keep(new Tree('c', constructor, taken(width, x, y, z)));
    }

    int call(int function, int x, int y, int z) {
        int width = existing(functions, function).takes.length;
        return keep(new Tree('f', function, taken(width, x, y, z)));
    }

    int clause(int function, int p, int q, int r, int body) {
        List<Tree> patterns = taken(existing(functions, function).takes.length, p, q, r);
        Tree its = existing(terms, body);
        List<Integer> bound = new ArrayList<>();
        for (Tree pattern : patterns) {
            List<Tree> calls = new ArrayList<>();
            pattern.calls(calls);
            pattern.variables(bound);
            if (!calls.isEmpty() || pattern.height() > 2 || pattern.size() > 8) {
                throw new IllegalArgumentException();
            }
        }
        List<Integer> free = new ArrayList<>();
        its.variables(free);
        if (new HashSet<>(bound).size() != bound.size() || !bound.containsAll(free)) {
            throw new IllegalArgumentException();
        }
        if (rules.size() == 24 || rules.stream().filter(rule -> rule.function == function).count() == 6) {
            throw new IllegalStateException();
        }
        rules.add(new Rule(function, patterns, its));
        verdict = -1;
        return rules.size();
    }

    int check() {
        graphs = 0;
        verdict = !inhabited() ? 1 : !typed() ? 2 : !covered() ? 3 : !ending() ? 4 : 0;
        return verdict;
    }

    private boolean inhabited() {
        Set<Integer> used = new HashSet<>();
        List<Head> all = new ArrayList<>(constructors);
        all.addAll(functions);
        for (Head head : all) {
            used.add(head.type);
            Arrays.stream(head.takes).forEach(used::add);
        }
        Set<Integer> having = new HashSet<>();
        for (int round = 0; round < 10; round++) {
            for (Head head : constructors) {
                if (Arrays.stream(head.takes).allMatch(having::contains)) {
                    having.add(head.type);
                }
            }
        }
        return having.containsAll(used);
    }

    /** The type of a term, or -1 if something inside is not typed; patterns give their variables types on the way. */
    private int typeOf(Tree tree, Map<Integer, Integer> types) {
        if (tree.kind == 'v') {
            return types.getOrDefault(tree.head, -1);
        }
        Head head = (tree.kind == 'c' ? constructors : functions).get(tree.head);
        for (int i = 0; i < head.takes.length; i++) {
            if (typeOf(tree.parts.get(i), types) != head.takes[i]) {
                return -1;
            }
        }
        return head.type;
    }

    private void give(Tree pattern, int type, Map<Integer, Integer> types) {
        if (pattern.kind == 'v') {
            types.put(pattern.head, type);
            return;
        }
        for (int i = 0; i < pattern.parts.size(); i++) {
            give(pattern.parts.get(i), constructors.get(pattern.head).takes[i], types);
        }
    }

    private boolean typed() {
        for (Rule rule : rules) {
            Head head = functions.get(rule.function);
            Map<Integer, Integer> types = new HashMap<>();
            for (int i = 0; i < head.takes.length; i++) {
                give(rule.patterns.get(i), head.takes[i], types);
            }
            for (int i = 0; i < head.takes.length; i++) {
                if (typeOf(rule.patterns.get(i), types) != head.takes[i]) {
                    return false;
                }
            }
            if (typeOf(rule.body, types) != head.type) {
                return false;
            }
        }
        return true;
    }

    /** All values of a type down to a depth; what is deeper is left out, since no pattern asks for it. */
    private List<Tree> shapes(int type, int depth) {
        List<Tree> all = new ArrayList<>();
        if (depth == 0) {
            all.add(new Tree('?', 0, List.of()));
            return all;
        }
        for (int c = 0; c < constructors.size(); c++) {
            if (constructors.get(c).type == type) {
                for (List<Tree> row : rows(constructors.get(c).takes, depth - 1)) {
                    all.add(new Tree('c', c, row));
                }
            }
        }
        return all;
    }

    private List<List<Tree>> rows(int[] types, int depth) {
        List<List<Tree>> all = new ArrayList<>();
        all.add(new ArrayList<>());
        for (int type : types) {
            List<List<Tree>> longer = new ArrayList<>();
            for (List<Tree> row : all) {
                for (Tree shape : shapes(type, depth)) {
                    List<Tree> more = new ArrayList<>(row);
                    more.add(shape);
                    longer.add(more);
                }
            }
            all = longer;
        }
        return all;
    }

    /** How many rows covered() would count out: so that a test can leave out what would take too long. */
    long rowsToCount() {
        long sum = 0;
        for (Head function : functions) {
            long product = 1;
            for (int type : function.takes) {
                long ofType = 0;
                for (Head head : constructors) {
                    long ofHead = head.type == type ? 1 : 0;
                    for (int part : head.takes) {
                        ofHead *= constructors.stream().filter(c -> c.type == part).count();
                    }
                    ofType += ofHead;
                }
                product *= ofType;
            }
            sum += product;
        }
        return sum;
    }

    private boolean covered() {
        for (int f = 0; f < functions.size(); f++) {
            for (List<Tree> row : rows(functions.get(f).takes, 2)) {
                if (counting(f, row, new HashMap<>()) == null) {
                    return false;
                }
            }
        }
        return true;
    }

    private Rule counting(int function, List<Tree> row, Map<Integer, Tree> standing) {
        for (Rule rule : rules) {
            boolean all = rule.function == function;
            for (int i = 0; all && i < row.size(); i++) {
                all = matches(rule.patterns.get(i), row.get(i), standing);
            }
            if (all) {
                return rule;
            }
            standing.clear();
        }
        return null;
    }

    private static boolean matches(Tree pattern, Tree value, Map<Integer, Tree> standing) {
        if (pattern.kind == 'v') {
            standing.put(pattern.head, value);
            return true;
        }
        if (value.kind != 'c' || pattern.head != value.head) {
            return false;
        }
        for (int i = 0; i < pattern.parts.size(); i++) {
            if (!matches(pattern.parts.get(i), value.parts.get(i), standing)) {
                return false;
            }
        }
        return true;
    }

    private static int arc(Tree pattern, Tree argument) {
        return pattern.text().equals(argument.text()) ? 1 : argument.within(pattern) ? 2 : 0;
    }

    private boolean ending() {
        List<Graph> all = new ArrayList<>();
        Set<String> texts = new HashSet<>();
        for (Rule rule : rules) {
            List<Tree> calls = new ArrayList<>();
            rule.body.calls(calls);
            for (Tree call : calls) {
                Graph graph = new Graph(rule.function, call.head);
                for (int i = 0; i < rule.patterns.size(); i++) {
                    for (int j = 0; j < call.parts.size(); j++) {
                        graph.arcs[i][j] = arc(rule.patterns.get(i), call.parts.get(j));
                    }
                }
                if (texts.add(graph.text())) {
                    all.add(graph);
                }
            }
        }
        boolean grown = true;
        while (grown && all.size() <= 200) {
            grown = false;
            for (Graph first : new ArrayList<>(all)) {
                for (Graph second : new ArrayList<>(all)) {
                    if (first.to == second.from && texts.add(first.then(second).text())) {
                        all.add(first.then(second));
                        grown = true;
                    }
                }
            }
        }
        graphs = Math.min(all.size(), 201);
        return all.size() <= 200 && all.stream().allMatch(Model::getsSmaller);
    }

    private static boolean getsSmaller(Graph graph) {
        return graph.from != graph.to || !graph.then(graph).text().equals(graph.text())
                || graph.arcs[0][0] == 2 || graph.arcs[1][1] == 2 || graph.arcs[2][2] == 2;
    }

    int graphs() {
        return graphs;
    }

    int arc(int clause, int k, int i, int j) {
        Rule rule = existing(rules, clause);
        List<Tree> calls = new ArrayList<>();
        rule.body.calls(calls);
        return arc(existing(rule.patterns, i), existing(existing(calls, k).parts, j));
    }

    boolean isValue(int term, int type) {
        if (term < 0 || term >= terms.size()) {
            return false;
        }
        String text = terms.get(term).text();
        return text.indexOf('v') < 0 && text.indexOf('f') < 0 && type >= 0 && typeOf(terms.get(term), Map.of()) == type;
    }

    int run(int function, int x, int y, int z) {
        if (verdict != 0) {
            throw new IllegalStateException();
        }
        int[] takes = existing(functions, function).takes;
        int[] given = {x, y, z};
        for (int i = 0; i < takes.length; i++) {
            if (!isValue(given[i], takes[i])) {
                throw new IllegalArgumentException();
            }
        }
        steps = 0;
        built = 0;
        answer = new ArrayList<>();
        try {
            write(step(function, taken(takes.length, x, y, z)), answer);
        } catch (Ended e) {
            return 0;
        }
        return answer.size();
    }

    private Tree step(int function, List<Tree> arguments) {
        if (steps == 200) {
            throw new Ended();
        }
        steps++;
        Map<Integer, Tree> standing = new HashMap<>();
        return valueOf(counting(function, arguments, standing).body, standing);
    }

    private Tree valueOf(Tree term, Map<Integer, Tree> standing) {
        if (term.kind == 'v') {
            return standing.get(term.head);
        }
        List<Tree> parts = new ArrayList<>();
        for (Tree part : term.parts) {
            parts.add(valueOf(part, standing));
        }
        if (term.kind == 'f') {
            return step(term.head, parts);
        }
        built++;
        Tree value = new Tree('c', term.head, parts);
        if (built == 601 || value.size() > 60) {
            throw new Ended();
        }
        return value;
    }

    private static void write(Tree value, List<Integer> into) {
        into.add(value.head);
        for (Tree part : value.parts) {
            write(part, into);
        }
    }

    int answer(int i) {
        if (i < 0 || i >= answer.size()) {
            throw new IndexOutOfBoundsException();
        }
        return answer.get(i);
    }

    int count(int what) {
        int[] counts = {steps, constructors.size(), functions.size(), terms.size(), rules.size(), verdict == 0 ? 1 : 0};
        return what >= 0 && what < counts.length ? counts[what] : -1;
    }

    int built() {
        return built;
    }
}
