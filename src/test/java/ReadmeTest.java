import java.io.IOException;
import java.lang.reflect.Method;
import java.lang.reflect.Modifier;
import java.nio.file.Files;
import java.nio.file.Path;
import java.util.HashMap;
import java.util.List;
import java.util.Map;
import java.util.TreeSet;
import java.util.regex.Matcher;
import java.util.regex.Pattern;

/** README.md: each call of its example answers what stands beside it, and what the page names is there. */
public final class ReadmeTest {
    private static final Path PAGE = Path.of("README.md");
    private static final Path TESTS = Path.of("src/test/java");
    private static final Pattern CALL =
            Pattern.compile("(?:int (\\w+) = )?garden\\.(\\w+)\\(([^()]*)\\); +// (-?\\w+)(?:: .+|)");
    private static final Pattern FILE = Pattern.compile("`([\\w./]*/[\\w./]+)`");

    private static int wrong = 0;
    private static int calls = 0;

    private static final TickGarden GARDEN = new TickGarden();
    private static final Map<String, Object> NAMED = new HashMap<>();

    private static void tell(String what) {
        wrong++;
        System.out.println(what);
    }

    private static Object valueOf(String word) throws ReflectiveOperationException {
        if (NAMED.containsKey(word)) return NAMED.get(word);
        if (word.equals("true") || word.equals("false")) return Boolean.valueOf(word);
        if (word.matches("(TickGarden\\.)?[A-Z]+")) {
            return TickGarden.class.getField(word.substring(word.indexOf('.') + 1)).get(null);
        }
        return word.endsWith("L") ? (Object) Long.decode(word.substring(0, word.length() - 1)) : Integer.decode(word);
    }

    private static Method methodOf(String name) throws NoSuchMethodException {
        for (Method method : TickGarden.class.getMethods()) {
            if (method.getName().equals(name) && method.getDeclaringClass() == TickGarden.class) return method;
        }
        throw new NoSuchMethodException(name);
    }

    private static void tryLine(String line) throws ReflectiveOperationException {
        Matcher found = CALL.matcher(line);
        if (!found.matches()) {
            tell("no call with its answer: " + line);
            return;
        }
        String[] words = found.group(3).isEmpty() ? new String[0] : found.group(3).split(", ");
        Object[] given = new Object[words.length];
        for (int i = 0; i < words.length; i++) given[i] = valueOf(words[i]);
        Object answer = methodOf(found.group(2)).invoke(GARDEN, given);
        calls++;
        if (!answer.equals(valueOf(found.group(4)))) tell("answered " + answer + ": " + line);
        if (found.group(1) != null) NAMED.put(found.group(1), answer);
    }

    private static void tryExample(String page) throws ReflectiveOperationException {
        int from = page.indexOf("```java\n");
        int to = page.indexOf("\n```\n", from + 1);
        if (from < 0 || to < 0) {
            tell("there is no example");
            return;
        }
        List<String> lines = page.substring(from + 8, to).lines().toList();
        if (!lines.get(0).equals("TickGarden garden = new TickGarden();")) tell("the example does not begin with a new garden");
        for (String line : lines.subList(1, lines.size())) {
            if (!line.isEmpty()) tryLine(line);
        }
    }

    /** Every call has to stand in the example, so that none is left unsaid. */
    private static void lookForCalls(String page) {
        for (Method method : TickGarden.class.getDeclaredMethods()) {
            boolean told = page.contains("garden." + method.getName() + "(");
            if (Modifier.isPublic(method.getModifiers()) && !told) tell("not told: " + method.getName());
        }
    }

    private static void lookForFiles(String page) throws IOException {
        Matcher found = FILE.matcher(page);
        while (found.find()) {
            if (!Files.exists(Path.of(found.group(1)))) tell("there is no " + found.group(1));
        }
        if (!page.contains("\n    .ci/run\n") || !Files.isExecutable(Path.of(".ci/run"))) tell("how to run the tests is not told");
        TreeSet<String> told = new TreeSet<>();
        Matcher named = Pattern.compile("\n- `(\\w+Test)`: ").matcher(page);
        while (named.find()) told.add(named.group(1) + ".java");
        TreeSet<String> there = new TreeSet<>();
        try (var files = Files.list(TESTS)) {
            files.forEach(file -> there.add(file.getFileName().toString()));
        }
        if (!told.equals(there)) tell("tests told " + told + ", there are " + there);
    }

    public static void main(String[] args) throws IOException, ReflectiveOperationException {
        String page = Files.readString(PAGE);
        tryExample(page);
        lookForCalls(page);
        lookForFiles(page);
        if (calls == 0) tell("no call was tried");
        System.out.println(wrong == 0 ? calls + " calls of the page answer as it says" : wrong + " things of the page do not hold");
        if (wrong != 0) {
            System.exit(1);
        }
    }
}
