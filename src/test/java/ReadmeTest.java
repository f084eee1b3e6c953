import java.io.IOException;
import java.lang.reflect.Method;
import java.nio.file.Files;
import java.nio.file.Path;
import java.util.ArrayList;
import java.util.Arrays;
import java.util.List;
import java.util.Set;
import java.util.TreeSet;
import java.util.regex.Matcher;
import java.util.regex.Pattern;
import java.util.stream.Collectors;
import java.util.stream.Stream;

/**
 * Makes the calls that README.md shows, in its order, and holds the answers that stand behind them. Each line of its
 * Java must be one that this test makes, each call of the face must be shown, and the command that it names for the
 * tests must be the script that runs them.
 */
final class ReadmeTest {
    private static final Pattern CALL = Pattern.compile("x\\.(\\w+)\\(([-\\d, ]*)\\); *// (-?\\d+|[A-Z]+)(: .+)?");
    private static final Pattern TEXT = Pattern.compile("for \\(char letter : \"(.*)\"\\.toCharArray\\(\\)\\) \\{");
    private static final String NEW = "PadPolish x = new PadPolish();";
    private static final String FEED = "    x.feed(letter);";
    private static final Path TESTS = Path.of("src/test/java");

    private static PadPolish x;
    private static String text = "";
    private static int calls;
    private static final Set<String> SHOWN = new TreeSet<>();

    public static void main(String[] args) throws Exception {
        List<String> readme = Files.readAllLines(Path.of("README.md"));
        for (String line : blocks(readme, "```java")) {
            make(line);
        }
        Checks.due("calls within what an object is promised", calls <= 512 ? 1 : 0, 1);
        same("the calls that are shown", SHOWN, face());
        same("the command for the tests", blocks(readme, "```sh"), List.of(".ci/run"));
        Checks.due(".ci/run can be run", Files.isExecutable(Path.of(".ci/run")) ? 1 : 0, 1);
        same("the tests in the table", named(readme), tests());
        Checks.end();
    }

    private static void same(String what, Object got, Object due) {
        Checks.due(what + " are " + got + ", due are " + due, got.equals(due) ? 1 : 0, 1);
    }

    /** The lines of all blocks that begin so. */
    private static List<String> blocks(List<String> readme, String beginning) {
        List<String> lines = new ArrayList<>();
        boolean within = false;
        for (String line : readme) {
            if (within && line.equals("```")) {
                within = false;
            } else if (within) {
                lines.add(line);
            } else {
                within = line.equals(beginning);
            }
        }
        return lines;
    }

    private static void make(String line) throws ReflectiveOperationException {
        Matcher call = CALL.matcher(line);
        Matcher told = TEXT.matcher(line);
        if (line.equals(NEW)) {
            x = new PadPolish();
            calls = 0;
        } else if (told.matches()) {
            text = told.group(1);
        } else if (line.equals(FEED)) {
            Checks.feed(x, text);
            calls += text.length();
        } else if (call.matches()) {
            Checks.due("README.md: " + line, answer(call.group(1), call.group(2)), due(call.group(3)));
        } else {
            Checks.due("README.md has a line that no test makes, " + line, line.equals("}") ? 1 : 0, 1);
        }
    }

    private static long answer(String name, String numbers) throws ReflectiveOperationException {
        Object[] given = Arrays.stream(numbers.split(", ")).filter(one -> !one.isEmpty()).map(Integer::valueOf).toArray();
        Class<?>[] types = new Class<?>[given.length];
        Arrays.fill(types, int.class);
        SHOWN.add(name);
        calls++;
        return ((Number) PadPolish.class.getMethod(name, types).invoke(x, given)).longValue();
    }

    private static long due(String shown) throws ReflectiveOperationException {
        boolean isName = Character.isLetter(shown.charAt(0));
        return isName ? PadPolish.class.getField(shown).getInt(null) : Long.parseLong(shown);
    }

    private static Set<String> face() {
        return Arrays.stream(PadPolish.class.getDeclaredMethods())
            .filter(method -> java.lang.reflect.Modifier.isPublic(method.getModifiers()))
            .map(Method::getName).collect(Collectors.toCollection(TreeSet::new));
    }

    private static Set<String> named(List<String> readme) {
        return readme.stream().filter(line -> line.startsWith("| `"))
            .flatMap(line -> Pattern.compile("`(\\w+Test)`").matcher(line).results()).map(one -> one.group(1))
            .collect(Collectors.toCollection(TreeSet::new));
    }

    private static Set<String> tests() throws IOException {
        try (Stream<Path> files = Files.list(TESTS)) {
            return files.map(file -> file.getFileName().toString()).filter(name -> name.endsWith("Test.java"))
                .map(name -> name.replace(".java", "")).collect(Collectors.toCollection(TreeSet::new));
        }
    }
}
