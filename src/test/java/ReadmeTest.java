import java.nio.file.Files;
import java.nio.file.Path;
import java.util.List;
import java.util.TreeSet;
import java.util.regex.Matcher;
import java.util.regex.Pattern;

/** The examples in README.md answer what stands behind them, and every call and every test is named there. */
public final class ReadmeTest {
    private static final Due due = new Due("ReadmeTest");
    private static final Pattern NEW = Pattern.compile("MarbleRun x = new MarbleRun\\(\\);");
    private static final Pattern TEXT = Pattern.compile("for \\(char c : \"([^\"]*)\"\\.toCharArray\\(\\)\\) \\{");
    private static final Pattern CALL = Pattern.compile("x\\.(\\w+)\\(([^)]*)\\); +// (-?\\d+).*");

    private MarbleRun x = null;
    private int calls = 0;

    public static void main(String[] args) throws Exception {
        List<String> lines = Files.readAllLines(Path.of("README.md"));
        new ReadmeTest().examples(lines);
        String page = String.join("\n", lines);
        everyCallIsNamed(page);
        everyTestIsNamed(page);
        due.end();
    }

    private void examples(List<String> lines) {
        boolean inside = false;
        for (String line : lines) {
            if (line.startsWith("```")) {
                inside = line.equals("```java");
            } else if (inside) {
                example(line.strip());
            }
        }
        due.holds("there are examples", calls > 20);
    }

    private void example(String line) {
        Matcher text = TEXT.matcher(line);
        Matcher call = CALL.matcher(line);
        if (NEW.matcher(line).matches()) {
            x = new MarbleRun();
        } else if (text.matches()) {
            for (char c : text.group(1).toCharArray()) {
                x.feed(c);
            }
        } else if (call.matches()) {
            calls++;
            due.is(line, Calls.answer(x, call.group(1), numbersOf(call.group(2))), Long.parseLong(call.group(3)));
        } else {
            due.holds("can be read: " + line, line.isEmpty() || line.equals("}") || line.startsWith("x.feed(c);"));
        }
    }

    private static int[] numbersOf(String told) {
        String[] parts = told.isEmpty() ? new String[0] : told.split(", ");
        int[] numbers = new int[parts.length];
        for (int i = 0; i < parts.length; i++) {
            numbers[i] = parts[i].startsWith("'") ? parts[i].charAt(1) : Integer.parseInt(parts[i]);
        }
        return numbers;
    }

    private static void everyCallIsNamed(String page) {
        TreeSet<String> names = new TreeSet<>();
        for (var m : MarbleRun.class.getMethods()) {
            if (m.getDeclaringClass() == MarbleRun.class) {
                names.add(m.getName());
            }
        }
        for (String name : names) {
            due.holds(name + " is named", page.contains("`" + name + "`"));
        }
    }

    private static void everyTestIsNamed(String page) throws Exception {
        try (var files = Files.list(Path.of("src/test/java"))) {
            for (Path file : files.toList()) {
                String name = file.getFileName().toString().replace(".java", "");
                due.holds(name + " is named", page.contains("`" + name + "`"));
            }
        }
    }
}
