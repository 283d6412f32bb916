import java.io.IOException;
import java.lang.reflect.Method;
import java.nio.file.Files;
import java.nio.file.Path;
import java.util.List;
import java.util.Set;
import java.util.TreeSet;
import java.util.regex.Matcher;
import java.util.regex.Pattern;
import java.util.stream.Collectors;
import java.util.stream.Stream;

/** README.md tells of the class and of its tests as they are. To be run from the project's folder. */
public final class ReadmeTest {
    private static final Path README = Path.of("README.md");
    private static final Path TESTS = Path.of("src/test/java");
    private static final Pattern ROW_OF_EXAMPLE = Pattern.compile("x\\.(\\w+)\\((.*)\\); +// (-?\\w+): .*");
    private static final Pattern CALL_IN_TABLE = Pattern.compile("\\| `(\\w+)\\((.*)\\)` \\|.*");
    private static final Pattern TEST_IN_TABLE = Pattern.compile("\\| `(\\w+Test)` \\|.*");
    private static final Pattern NAMED_TEST = Pattern.compile("`(?:(\\w+Test)(?:\\.|`))?(?:([a-z]\\w*)`)?");

    public static void main(String[] args) throws IOException, ReflectiveOperationException {
        List<String> lines = Files.readAllLines(README);
        example(lines);
        callsInTable(lines);
        testsInTable(lines);
        testsOfEdges(lines);
        Due.end();
    }

    private static Method methodOf(String name) {
        for (Method method : SnapStacks.class.getDeclaredMethods()) {
            if (method.getName().equals(name)) {
                return method;
            }
        }
        throw new IllegalStateException("README.md names no method of the class: " + name);
    }

    private static String[] separated(String arguments) {
        return arguments.isEmpty() ? new String[0] : arguments.split(", ");
    }

    /** Each row of the example answers what stands behind it. */
    private static void example(List<String> lines) throws ReflectiveOperationException {
        SnapStacks x = new SnapStacks();
        int rows = 0;
        for (String line : lines) {
            Matcher row = ROW_OF_EXAMPLE.matcher(line);
            if (row.matches()) {
                rows++;
                Object[] with = Stream.of(separated(row.group(2))).map(ReadmeTest::number).toArray();
                Due.is(line, (int) methodOf(row.group(1)).invoke(x, with), due(row.group(3)));
            } else {
                Due.holds("a row of the example tells its answer: " + line, !line.startsWith("x."));
            }
        }
        Due.holds("there is an example", rows > 20);
    }

    private static Integer number(String argument) {
        return argument.charAt(0) == '\'' ? argument.charAt(1) : Integer.parseInt(argument);
    }

    private static int due(String answer) throws ReflectiveOperationException {
        return Character.isUpperCase(answer.charAt(0)) ? SnapStacks.class.getField(answer).getInt(null)
                : Integer.parseInt(answer);
    }

    /** Each method of the face has a row of its own. */
    private static void callsInTable(List<String> lines) {
        Set<String> told = new TreeSet<>();
        for (String line : lines) {
            Matcher row = CALL_IN_TABLE.matcher(line);
            if (row.matches()) {
                told.add(row.group(1));
                Due.is(line, separated(row.group(2)).length, methodOf(row.group(1)).getParameterCount());
            }
        }
        Set<String> all = Stream.of(SnapStacks.class.getMethods())
                .filter(method -> method.getDeclaringClass() == SnapStacks.class)
                .map(Method::getName).collect(Collectors.toCollection(TreeSet::new));
        Due.same("the calls in the table", told.toString(), all.toString());
    }

    private static void testsInTable(List<String> lines) throws IOException {
        Set<String> told = new TreeSet<>();
        for (String line : lines) {
            Matcher row = TEST_IN_TABLE.matcher(line);
            if (row.matches()) {
                told.add(row.group(1));
            }
        }
        try (Stream<Path> files = Files.list(TESTS)) {
            Set<String> all = files.map(file -> file.getFileName().toString().replace(".java", ""))
                    .collect(Collectors.toCollection(TreeSet::new));
            Due.same("the tests in the table", told.toString(), all.toString());
        }
    }

    /** Each test that is named for an edge is there; without the name of its class it is of the one named before. */
    private static void testsOfEdges(List<String> lines) throws IOException {
        int heading = lines.indexOf("## Where the edges that the document names are tested");
        Due.holds("README.md says where the edges are tested", heading >= 0);
        int named = 0;
        for (String line : lines.subList(heading + 1, lines.size())) {
            String[] cells = line.split(" \\| ");
            String source = "";
            Matcher test = NAMED_TEST.matcher(line.startsWith("| ") && cells.length == 2 ? cells[1] : "");
            while (test.find()) {
                source = test.group(1) == null ? source : Files.readString(TESTS.resolve(test.group(1) + ".java"));
                if (test.group(2) != null) {
                    named++;
                    Due.holds(test.group(2) + " is there, for: " + line,
                            source.contains("void " + test.group(2) + "("));
                }
            }
        }
        Due.holds("tests are named for the edges: " + named, named > 50);
    }
}
