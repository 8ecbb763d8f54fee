import java.io.IOException;
import java.nio.file.Files;
import java.nio.file.Path;
import java.util.List;
import java.util.function.IntSupplier;

/** README.md's example answers what stands there; and it is that example, line by line, that is tried here. */
public final class ReadmeTest {
    private static final Path README = Path.of("README.md");
    private static final Path THIS = Path.of("src/test/java/ReadmeTest.java");

    private static final Checks checks = new Checks();

    public static void main(String[] args) throws IOException {
        example();
        sameAsInReadme();
        checks.end();
    }

    private static void due(int want, IntSupplier call) {
        checks.due("README.md's example", want, call);
    }

    private static void example() {
        SureFunctions x = new SureFunctions();
        int zero = x.constructor(0, -1, -1, -1);
        int next = x.constructor(0, 0, -1, -1);
        int add = x.function(0, 0, 0, -1);

        int a = x.variable(0);
        int b = x.variable(1);
        int none = x.make(zero, 0, 0, 0);
        int more = x.make(next, a, 0, 0);
        int sum = x.call(add, a, b, 0);
        x.clause(add, none, b, 0, b);
        x.clause(add, more, b, 0, x.make(next, sum, 0, 0));

        due(0, () -> x.check());
        due(1, () -> x.graphs());
        due(2, () -> x.arc(1, 0, 0, 0));
        due(1, () -> x.arc(1, 0, 1, 1));

        int one = x.make(next, none, 0, 0);
        int two = x.make(next, one, 0, 0);
        due(5, () -> x.run(add, two, two, 0));
        due(1, () -> x.answer(0));
        due(0, () -> x.answer(4));
        due(3, () -> x.count(0));
    }

    private static void sameAsInReadme() throws IOException {
        List<String> tried = Files.readAllLines(THIS).stream().map(String::strip).toList();
        List<String> lines = Files.readAllLines(README);
        int from = lines.indexOf("```java") + 1;
        int to = from + lines.subList(from, lines.size()).indexOf("```");
        checks.due("README.md has an example", from > 0 && to > from, true);
        for (String line : lines.subList(from, to)) {
            checks.due("README.md: " + line + " is tried", tried.contains(asTried(line)), true);
        }
    }

    /** A line whose comment begins with a number and a colon must answer that number. */
    private static String asTried(String line) {
        String[] sides = line.split("//");
        String code = sides[0].strip();
        if (sides.length < 2 || !sides[1].matches(" \\d+: .*")) {
            return code;
        }
        String want = sides[1].substring(1, sides[1].indexOf(':'));
        return "due(" + want + ", () -> " + code.substring(0, code.length() - 1) + ");";
    }
}
