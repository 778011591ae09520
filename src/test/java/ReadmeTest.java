import java.io.IOException;
import java.nio.file.Files;
import java.nio.file.Path;
import java.util.LinkedHashMap;
import java.util.Map;
import java.util.regex.Matcher;
import java.util.regex.Pattern;

/** The example in README.md answers what is written there; its text becomes the rows of a run. */
public final class ReadmeTest {
    private static final Pattern EXAMPLE = Pattern.compile("```java\n(.*?)```", Pattern.DOTALL);
    private static final Pattern CALL =
            Pattern.compile("(?:int (\\w+) = )?desk\\.(\\w+\\(.*\\));\\s*(?:// -> (-?\\w+).*)?");

    public static void main(String[] args) throws IOException {
        Matcher example = EXAMPLE.matcher(Files.readString(Path.of("README.md")));
        if (example.find()) {
            new Run("README.md").rows(rowsOf(example.group(1)));
        } else {
            Run.fault("README.md has no example");
        }
        Run.finish();
    }

    private static String rowsOf(String example) {
        Map<String, String> named = new LinkedHashMap<>();
        StringBuilder rows = new StringBuilder();
        for (String text : example.split("\n")) {
            Matcher call = CALL.matcher(text);
            if (call.matches()) {
                String due = call.group(3) == null ? "done" : call.group(3);
                rows.append(withNumbers(call.group(2), named)).append(" -> ").append(due).append('\n');
                if (call.group(1) != null) {
                    named.put(call.group(1), due);
                }
            } else if (text.startsWith("desk.") || text.startsWith("int ")) {
                Run.fault("README.md: cannot read " + text);
            }
        }
        return rows.toString();
    }

    /** The call with numbers in place of the names that the example gave to earlier answers. */
    private static String withNumbers(String call, Map<String, String> named) {
        int open = call.indexOf('(');
        String arguments = call.substring(open);
        for (Map.Entry<String, String> each : named.entrySet()) {
            arguments = arguments.replaceAll("\\b" + each.getKey() + "\\b", each.getValue());
        }
        return call.substring(0, open) + arguments;
    }
}
