import java.io.IOException;
import java.lang.reflect.Method;
import java.lang.reflect.Modifier;
import java.nio.file.Files;
import java.nio.file.Path;
import java.util.Arrays;
import java.util.List;
import java.util.Set;
import java.util.TreeSet;
import java.util.regex.MatchResult;
import java.util.regex.Pattern;
import java.util.stream.Collectors;
import java.util.stream.Stream;

/** README.md tells no wrong answer, and leaves out no call and no test. */
public final class ReadmeTest {
    private static final Due DUE = new Due("ReadmeTest");
    private static final Pattern EXAMPLE = Pattern.compile("(?m)^bench\\.(\\w+)\\(([^)]*)\\);\\s+// (-?\\w+)(?=:|$)");
    private static final Pattern EXAMPLE_LINE = Pattern.compile("(?m)^bench\\..*$");
    private static final Pattern CALL_ROW = Pattern.compile("(?m)^\\| `(\\w+)\\(([^)]*)\\)` \\|.*\\| (-?\\w+) \\|$");
    private static final Pattern TEST_ROW = Pattern.compile("(?m)^\\| `(\\w+Test)` \\|");

    public static void main(String[] args) throws IOException, ReflectiveOperationException {
        String page = Files.readString(Path.of("README.md"));
        examples(page);
        calls(page);
        tests(page);
        DUE.end();
    }

    private static List<MatchResult> found(Pattern pattern, String page) {
        return pattern.matcher(page).results().toList();
    }

    private static void examples(String page) throws ReflectiveOperationException {
        TellingBench bench = new TellingBench();
        Set<String> shown = new TreeSet<>();
        DUE.is("examples with an answer", found(EXAMPLE, page).size(), found(EXAMPLE_LINE, page).size());
        for (MatchResult line : found(EXAMPLE, page)) {
            int[] numbers = Arrays.stream(line.group(2).split(", ")).mapToInt(Integer::parseInt).toArray();
            DUE.is(line.group(), answer(bench, line.group(1), numbers), line.group(3));
            shown.add(line.group(1));
        }
        DUE.yes("some example was found", shown.size() > 1);
    }

    /** The last column is what a call answers whose numbers are all far outside. */
    private static void calls(String page) throws ReflectiveOperationException {
        Set<String> named = new TreeSet<>();
        for (MatchResult row : found(CALL_ROW, page)) {
            int[] outside = new int[row.group(2).split(", ").length];
            Arrays.fill(outside, Integer.MIN_VALUE);
            DUE.is(row.group(1) + " of numbers far outside", answer(new TellingBench(), row.group(1), outside), row.group(3));
            named.add(row.group(1));
        }
        Set<String> face = Arrays.stream(TellingBench.class.getDeclaredMethods())
            .filter(method -> Modifier.isPublic(method.getModifiers()))
            .map(Method::getName).collect(Collectors.toCollection(TreeSet::new));
        DUE.is("the calls", named.toString(), face.toString());
    }

    private static String answer(TellingBench bench, String name, int[] numbers) throws ReflectiveOperationException {
        Class<?>[] types = new Class<?>[numbers.length];
        Arrays.fill(types, int.class);
        Object[] boxed = Arrays.stream(numbers).boxed().toArray();
        return TellingBench.class.getMethod(name, types).invoke(bench, boxed).toString();
    }

    private static void tests(String page) throws IOException {
        Set<String> named = new TreeSet<>();
        for (MatchResult row : found(TEST_ROW, page)) {
            named.add(row.group(1));
        }
        try (Stream<Path> files = Files.list(Path.of("src/test/java"))) {
            Set<String> there = files.map(file -> file.getFileName().toString()).filter(name -> name.endsWith("Test.java"))
                .map(name -> name.replace(".java", "")).collect(Collectors.toCollection(TreeSet::new));
            DUE.is("the tests", named.toString(), there.toString());
        }
    }
}
