import java.io.IOException;
import java.lang.reflect.Method;
import java.nio.file.Files;
import java.nio.file.Path;
import java.util.Arrays;
import java.util.List;
import java.util.Set;
import java.util.TreeSet;
import java.util.regex.Matcher;
import java.util.regex.Pattern;

/** README.md tells each call of the document's face, and its example answers what it says. */
public final class ReadmeTest {
    private static final Pattern CALL = Pattern.compile(".*\\bx\\.(\\w+)\\(([^)]*)\\);(?:\\s*//\\s*(.*))?");
    private static final Pattern ANSWER = Pattern.compile("(-?\\d+)(?:[:;].*)?");

    private final List<String> lines;
    private final List<String> face;

    private ReadmeTest(Path readme, Path document) throws IOException {
        lines = Files.readAllLines(readme);
        face = Face.lines(document);
    }

    /** A row is | `call` | what it does and answers | what it throws |. */
    private String rowOf(String call) {
        for (String line : lines) {
            if (line.startsWith("| `" + call + "` |")) {
                return line;
            }
        }
        return "";
    }

    private void everyCallHasARow() {
        for (String line : face) {
            if (line.contains(" class ")) {
                continue;
            }
            String[] parts = line.replaceFirst("^public (static final )?", "").split(" throws ");
            String[] cells = rowOf(parts[0]).split(" *\\| *");
            Checks.same("cells of the row of " + parts[0], cells.length, 4);
            Checks.same("exceptions told of " + parts[0], exceptionsIn(cells[cells.length - 1]), parts.length > 1 ? parts[1] : "");
        }
    }

    private static String exceptionsIn(String cell) {
        StringBuilder text = new StringBuilder();
        Matcher found = Pattern.compile("\\w+Exception").matcher(cell);
        while (found.find()) {
            text.append(text.length() == 0 ? "" : ", ").append(found.group());
        }
        return text.toString();
    }

    private void theExampleIsTrue() throws ReflectiveOperationException {
        CommunityLevels x = new CommunityLevels();
        Set<String> called = new TreeSet<>();
        boolean inExample = false;
        for (String line : lines) {
            if (line.startsWith("```")) {
                inExample = line.equals("```java");
            }
            Matcher call = CALL.matcher(line);
            if (inExample && call.matches()) {
                called.add(call.group(1));
                callIsAnswered(x, call);
            }
        }
        for (String line : face) {
            if (line.matches(".* (int|long|void) \\w+\\(.*")) {
                String name = line.replaceFirst("\\(.*", "").replaceFirst(".* ", "");
                Checks.same("is " + name + " in the example", called.contains(name) ? "yes" : "no", "yes");
            }
        }
    }

    private static void callIsAnswered(CommunityLevels x, Matcher call) throws ReflectiveOperationException {
        Object[] numbers = numbersOf(call.group(2));
        Class<?>[] types = new Class<?>[numbers.length];
        Arrays.fill(types, int.class);
        Method method = CommunityLevels.class.getMethod(call.group(1), types);
        Object got = method.invoke(x, numbers);
        Matcher due = ANSWER.matcher(call.group(3) == null ? "" : call.group(3));
        boolean answersNothing = method.getReturnType() == void.class;
        if (due.matches()) {
            Checks.same(call.group(0).strip(), String.valueOf(got), due.group(1));
        } else if (!answersNothing && !call.group(1).equals("weigh")) {
            Checks.same(call.group(0).strip() + ": is its answer told", "no", "yes");
        }
    }

    private static Object[] numbersOf(String list) {
        if (list.isBlank()) {
            return new Object[0];
        }
        String[] texts = list.split(", *");
        Object[] numbers = new Object[texts.length];
        for (int i = 0; i < texts.length; i++) {
            numbers[i] = Integer.valueOf(texts[i]);
        }
        return numbers;
    }

    /** Each test of the project is told of. */
    private void everyTestIsNamed(Path tests) throws IOException {
        try (var files = Files.newDirectoryStream(tests, "*Test.java")) {
            for (Path file : files) {
                String name = file.getFileName().toString().replace(".java", "");
                Checks.same("a row for " + name, rowOf(name).isEmpty() ? "no" : "yes", "yes");
            }
        }
    }

    public static void main(String[] args) throws IOException, ReflectiveOperationException {
        Path readme = Path.of(System.getProperty("readme", "README.md"));
        ReadmeTest test = new ReadmeTest(readme, Face.document());
        test.everyCallHasARow();
        test.theExampleIsTrue();
        test.everyTestIsNamed(readme.resolveSibling("src/test/java"));
        Checks.end();
    }
}
