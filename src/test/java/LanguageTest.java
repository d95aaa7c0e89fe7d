import java.io.IOException;
import java.lang.reflect.Field;
import java.lang.reflect.Method;
import java.lang.reflect.Modifier;
import java.nio.file.Files;
import java.nio.file.Path;
import java.util.Arrays;
import java.util.List;
import java.util.Set;
import java.util.TreeSet;
import java.util.regex.Matcher;
import java.util.regex.Pattern;
import java.util.stream.Collectors;
import java.util.stream.Stream;

/** What of ../shared/LANGUAGE.md can be seen from the program's text and its members. */
public final class LanguageTest {
    private static final Path FOLDER = Path.of("src", "main", "java");
    private static final String[] NOT_USED = {
        "package", "import", "try", "catch", "finally", "synchronized", "assert", "volatile", "native",
        "Object", "Exception", "Throwable", "Error", "Thread", "Random", "System", "Float", "Double",
        "equals", "hashCode", "toString", "getMessage", "double", "float",
    };
    private static final Pattern WORD = Pattern.compile("\\b[A-Za-z]\\w*\\b");
    private static final Pattern GOOD_THROW = Pattern.compile(
        "throw new (IllegalStateException|IllegalArgumentException|IndexOutOfBoundsException)\\(\"[ -~]*\"\\);");
    private static final Pattern METHOD = Pattern.compile("(?m)^ +[^=;{}]*\\([^;{}]*\\)[^=;{}]*\\{$");

    public static void main(String[] args) throws IOException {
        try (Stream<Path> files = Files.walk(FOLDER)) {
            List<String> names = files.filter(Files::isRegularFile).map(f -> f.getFileName().toString())
                .collect(Collectors.toList());
            Check.same("the program is one file", List.of("LearningSolver.java"), names);
        }
        String text = withoutComments(Files.readString(FOLDER.resolve("LearningSolver.java")));
        words(text.replaceAll("\"[^\"\n]*\"", "\"\""));
        throwsAreWrittenOut(text);
        methodsAreShort(text);
        members(LearningSolver.class);
        for (Class<?> inside : LearningSolver.class.getDeclaredClasses()) {
            members(inside);
        }
        Check.end();
    }

    private static String withoutComments(String text) {
        return text.replaceAll("(?s)/\\*.*?\\*/", "").replaceAll("//[^\n]*", "");
    }

    private static void words(String text) {
        Set<String> used = new TreeSet<>();
        Matcher m = WORD.matcher(text);
        while (m.find()) {
            used.add(m.group());
        }
        for (String word : NOT_USED) {
            Check.due("rules 1 to 7 and 13: " + word + " is used", false, used.contains(word));
        }
        for (String word : used) {
            Check.due("rule 4: " + word + " is used", false, word.endsWith("Exact"));
        }
        Check.due("rule 2: a lambda", false, text.contains("->"));
        Check.due("rule 2: a method reference", false, text.contains("::"));
        Check.due("rule 5: a static block", false, text.matches("(?s).*\\bstatic\\s*\\{.*"));
    }

    private static void throwsAreWrittenOut(String text) {
        int good = 0;
        Matcher m = GOOD_THROW.matcher(text);
        while (m.find()) {
            good++;
        }
        int all = text.split("\\bthrow\\b", -1).length - 1;
        Check.same("rule 6: each throw makes its exception with a written text", all, good);
    }

    /** From a method's first line to the line that closes it, which is indented as the first. */
    private static void methodsAreShort(String text) {
        Matcher m = METHOD.matcher(text);
        int methods = 0;
        while (m.find()) {
            String head = m.group();
            String indent = head.substring(0, head.length() - head.stripLeading().length());
            if (indent.length() > 8 || head.contains(" class ")) {
                continue;
            }
            int end = text.indexOf("\n" + indent + "}", m.end());
            long length = text.substring(m.start(), end).lines().count() + 1;
            Check.due("rule 11: " + head.trim() + " has " + length + " lines", true, length <= 60);
            methods++;
        }
        Check.due("the methods were found", true, methods >= 13);
    }

    private static void members(Class<?> c) {
        Set<String> face = Arrays.stream(LearningSolver.class.getDeclaredMethods())
            .filter(m -> Modifier.isPublic(m.getModifiers())).map(Method::getName)
            .collect(Collectors.toSet());
        for (Method m : c.getDeclaredMethods()) {
            boolean open = Modifier.isPublic(m.getModifiers());
            Check.due("rule 1: " + m + " bears a public name", false, !open && face.contains(m.getName()));
            Check.due("rule 11: the parameters of " + m, true, m.getParameterCount() <= 7);
        }
        int fields = 0;
        for (Field f : c.getDeclaredFields()) {
            boolean constant = Modifier.isStatic(f.getModifiers());
            fields += constant ? 0 : 1;
            Check.due("rule 5: " + f, true, !constant || Modifier.isFinal(f.getModifiers()));
        }
        Check.due("rule 11: " + c + " has " + fields + " fields", true, fields <= 20);
    }
}
