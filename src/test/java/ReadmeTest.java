import java.io.IOException;
import java.lang.reflect.InvocationTargetException;
import java.lang.reflect.Method;
import java.lang.reflect.Modifier;
import java.nio.file.Files;
import java.nio.file.Path;
import java.util.Arrays;
import java.util.HashMap;
import java.util.List;
import java.util.Map;
import java.util.Set;
import java.util.TreeSet;
import java.util.regex.Matcher;
import java.util.regex.Pattern;
import java.util.stream.Collectors;
import java.util.stream.Stream;

/** README.md: its example call by call, its tables, and the tests that it names. */
public final class ReadmeTest {

    private static final Path README = Path.of("README.md");
    private static final Path DOCUMENT = Path.of("../shared/DOC.md");
    private static final Path TESTS = Path.of("src/test/java");

    private static final String FIRST_LINE = "MatchingService service = new MatchingService();";
    /** A call of the example: a name for its answer, the method, the arguments, and the answer that is told. */
    private static final Pattern CALL =
            Pattern.compile("(?:int (\\w+) = )?service\\.(\\w+)\\((.*)\\); +// ([^:]+)(?:: .*)?");
    private static final Pattern ROW = Pattern.compile("\\| `(.+?)` \\|.*");
    private static final Pattern TEST = Pattern.compile("`(\\w+Test)`");

    private static final Check CHECK = new Check("ReadmeTest");

    /** The answers of the example that have a name. */
    private final Map<String, Integer> named = new HashMap<>();
    private final MatchingService service = new MatchingService();

    public static void main(String[] args) throws IOException {
        List<String> lines = Files.readAllLines(README);
        new ReadmeTest().makeExample(lines);
        lookAtTables(lines);
        lookAtTests(lines);
        CHECK.end();
    }

    private void makeExample(List<String> lines) {
        List<String> example = lines.stream()
                .dropWhile(line -> !line.equals("```java"))
                .skip(1)
                .takeWhile(line -> !line.equals("```"))
                .toList();
        CHECK.due("the first line of the example", FIRST_LINE, () -> example.get(0));
        for (String line : example.subList(1, example.size())) {
            Matcher call = CALL.matcher(line);
            CHECK.due("that this is a call: " + line, true, call::matches);
            if (call.matches()) {
                CHECK.due(line, call.group(4), () -> answerOf(call));
            }
        }
    }

    private String answerOf(Matcher call) {
        Object[] arguments = Stream.of(call.group(3).split(", "))
                .filter(text -> !text.isEmpty())
                .map(this::numberOf)
                .toArray();
        Object answer = answerOf(call.group(2), arguments);
        if (call.group(1) != null) {
            named.put(call.group(1), (Integer) answer);
        }
        return answer.toString();
    }

    private Integer numberOf(String text) {
        if (named.containsKey(text)) {
            return named.get(text);
        }
        return text.startsWith("0b") ? Integer.parseInt(text.substring(2), 2) : Integer.parseInt(text);
    }

    private Object answerOf(String name, Object[] arguments) {
        Class<?>[] types = new Class<?>[arguments.length];
        Arrays.fill(types, int.class);
        try {
            return MatchingService.class.getMethod(name, types).invoke(service, arguments);
        } catch (InvocationTargetException e) {
            return e.getCause().getClass().getSimpleName();
        } catch (ReflectiveOperationException e) {
            return e;
        }
    }

    private static void lookAtTables(List<String> lines) throws IOException {
        List<String> rows = lines.stream()
                .map(ROW::matcher)
                .filter(Matcher::matches)
                .map(row -> row.group(1))
                .toList();
        Set<String> faces = Files.readAllLines(DOCUMENT).stream()
                .map(String::trim)
                .filter(line -> line.startsWith("public "))
                .map(line -> line.replaceAll("^public |( throws .*)?;$", ""))
                .collect(Collectors.toSet());
        for (String row : rows) {
            CHECK.due("that the document has: " + row, true, () -> faces.contains(row));
        }
        CHECK.due("the calls of the tables", namesOfMethods(),
                () -> rows.stream().map(row -> row.replaceAll("^\\w+ |\\(.*", "")).sorted().toList());
    }

    private static List<String> namesOfMethods() {
        return Arrays.stream(MatchingService.class.getDeclaredMethods())
                .filter(method -> Modifier.isPublic(method.getModifiers()))
                .map(Method::getName)
                .sorted()
                .toList();
    }

    private static void lookAtTests(List<String> lines) throws IOException {
        Set<String> told = new TreeSet<>();
        for (String line : lines) {
            TEST.matcher(line).results().forEach(name -> told.add(name.group(1)));
        }
        try (Stream<Path> files = Files.list(TESTS)) {
            Set<String> there = files
                    .map(file -> file.getFileName().toString())
                    .filter(name -> name.endsWith("Test.java"))
                    .map(name -> name.replace(".java", ""))
                    .collect(Collectors.toCollection(TreeSet::new));
            CHECK.due("the tests that are named", there, () -> told);
        }
    }
}
