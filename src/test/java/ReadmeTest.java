import java.io.IOException;
import java.nio.file.Files;
import java.nio.file.Path;
import java.util.HashMap;
import java.util.Map;
import java.util.regex.Matcher;
import java.util.regex.Pattern;

/** The example of README.md answers what its comments say. */
public final class ReadmeTest {
    private static final Pattern LINE =
        Pattern.compile("(?:int (\\w+) = )?x\\.(\\w+)\\(([^)]*)\\); +// (?:(-?\\d+|true|false)\\b)?.*");

    public static void main(String[] args) throws IOException {
        Story x = new Story("README.md");
        Map<String, Integer> names = new HashMap<>();
        boolean inside = false;
        int calls = 0;
        for (String line : Files.readAllLines(Path.of("README.md"))) {
            inside = line.startsWith("```") ? line.equals("```java") : inside;
            Matcher m = LINE.matcher(line);
            if (inside && m.matches()) {
                call(x, m, names);
                calls++;
            } else if (inside && line.contains("x.")) {
                throw new AssertionError(line);
            }
        }
        Check.due("the example was found in README.md", true, calls > 0);
        Check.end();
    }

    private static void call(Story x, Matcher m, Map<String, Integer> names) {
        StringBuilder text = new StringBuilder(m.group(2)).append('(');
        for (String argument : m.group(3).isEmpty() ? new String[0] : m.group(3).split(", ")) {
            text.append(text.toString().endsWith("(") ? "" : ", ").append(value(argument, names));
        }
        text.append(')');
        if (m.group(4) == null) {
            x.take(text.toString());
        } else {
            x.due(m.group(4), text.toString());
        }
        if (m.group(1) != null) {
            names.put(m.group(1), Integer.parseInt(m.group(4)));
        }
    }

    /** Of sums of products of numbers and names. */
    private static int value(String sum, Map<String, Integer> names) {
        int all = 0;
        for (String product : sum.split(" \\+ ")) {
            int one = 1;
            for (String part : product.split(" \\* ")) {
                one *= names.containsKey(part) ? names.get(part) : Integer.parseInt(part);
            }
            all += one;
        }
        return all;
    }
}
