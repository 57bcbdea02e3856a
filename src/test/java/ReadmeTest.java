import java.io.IOException;
import java.lang.reflect.Method;
import java.lang.reflect.Modifier;
import java.nio.file.Files;
import java.nio.file.Path;
import java.util.List;
import java.util.Set;
import java.util.TreeSet;
import java.util.regex.Matcher;
import java.util.regex.Pattern;
import java.util.stream.Collectors;
import java.util.stream.Stream;

/** README.md holds: its example answers what it tells, and it names every call and every test. */
public final class ReadmeTest {
    private static final Check CHECK = new Check();
    private static final Path README = Path.of("README.md");
    private static final Path TESTS = Path.of("src/test/java");
    private static final Pattern TOLD = Pattern.compile("x\\.(\\w+)\\(([-\\d, ]*)\\); *// (-?\\d+): .*");

    public static void main(String[] args) throws IOException {
        List<String> lines = Files.readAllLines(README);
        exampleAnswersWhatIsTold(lines);
        everyCallIsNamed(String.join("\n", lines));
        everyTestIsNamed(String.join("\n", lines));
        CHECK.finish();
    }

    private static void exampleAnswersWhatIsTold(List<String> lines) {
        WeightedClauses x = new WeightedClauses(2);
        CHECK.due("the example's object",
                lines.stream().anyMatch(line -> line.startsWith("WeightedClauses x = new WeightedClauses(2);")) ? 1 : 0, 1);
        Set<String> called = new TreeSet<>();
        for (String line : lines) {
            Matcher told = TOLD.matcher(line);
            if (told.matches()) {
                called.add(told.group(1));
                CHECK.due(line, answer(x, told.group(1), numbers(told.group(2))), Long.parseLong(told.group(3)));
            }
            CHECK.due(line + " is read", line.startsWith("x.") && !told.matches() ? 1 : 0, 0);
        }
        CHECK.dueText("the example calls", called.toString(),
                "[best, bound, clause, cost, first, log, logged, nodes, solve, subset, value]");
    }

    private static int[] numbers(String arguments) {
        return arguments.isEmpty() ? new int[0]
                : Stream.of(arguments.split(", ")).mapToInt(Integer::parseInt).toArray();
    }

    private static long answer(WeightedClauses x, String call, int[] a) {
        return switch (call) {
            case "clause" -> x.clause(a[0], a[1], a[2], a[3], a[4]);
            case "cost" -> x.cost(a[0], a[1]);
            case "bound" -> x.bound(a[0], a[1]);
            case "subset" -> x.subset(a[0], a[1], a[2]);
            case "first" -> x.first(a[0], a[1]);
            case "solve" -> x.solve();
            case "value" -> x.value(a[0]);
            case "nodes" -> x.nodes();
            case "logged" -> x.logged();
            case "log" -> x.log(a[0], a[1]);
            case "best" -> x.best(a[0]);
            default -> throw new IllegalArgumentException(call);
        };
    }

    private static void everyCallIsNamed(String readme) {
        for (Method method : WeightedClauses.class.getDeclaredMethods()) {
            if (Modifier.isPublic(method.getModifiers())) {
                CHECK.due("README.md names " + method.getName(), readme.contains("`" + method.getName() + "(") ? 1 : 0, 1);
            }
        }
    }

    private static void everyTestIsNamed(String readme) throws IOException {
        Set<String> named = new TreeSet<>();
        Matcher names = Pattern.compile("`(\\w+Test)`").matcher(readme);
        while (names.find()) {
            named.add(names.group(1));
        }
        try (Stream<Path> files = Files.list(TESTS)) {
            Set<String> there = files.map(file -> file.getFileName().toString())
                    .filter(name -> name.endsWith("Test.java"))
                    .map(name -> name.substring(0, name.length() - ".java".length()))
                    .collect(Collectors.toCollection(TreeSet::new));
            CHECK.dueText("tests that README.md names", named.toString(), there.toString());
        }
    }
}
