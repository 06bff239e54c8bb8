import java.lang.reflect.Method;
import java.lang.reflect.Modifier;
import java.nio.file.Files;
import java.nio.file.Path;
import java.util.ArrayList;
import java.util.List;
import java.util.Set;
import java.util.TreeSet;
import java.util.regex.Matcher;
import java.util.regex.Pattern;

/** README.md tells every call of the class, and its example's answers are those that the class gives. */
final class ReadmeTest {
    private static final Pattern CALL = Pattern.compile("pair\\.(\\w+)\\(([^)]*)\\); *// (true|false|-?\\d+)(:.*)?");

    public static void main(String[] args) throws Exception {
        List<String> lines = Files.readAllLines(Path.of("README.md"));
        everyCallIsTold(String.join("\n", lines));
        List<String> example = javaLines(lines);
        Check.due("the example's first line", example.get(0), "LeasePair pair = new LeasePair();");
        exampleIsTrue(example.subList(1, example.size()));
        everyTestIsListed(String.join("\n", lines));
        Check.end();
    }

    private static void everyCallIsTold(String page) {
        for (Method method : LeasePair.class.getDeclaredMethods()) {
            if (Modifier.isPublic(method.getModifiers())) {
                String head = "| `" + method.getReturnType() + " " + method.getName() + "(";
                Check.yes("the tables tell " + method.getName(), page.contains(head));
            }
        }
    }

    private static List<String> javaLines(List<String> lines) {
        List<String> found = new ArrayList<>();
        boolean inside = false;
        for (String line : lines) {
            if (line.startsWith("```")) {
                inside = line.equals("```java");
            } else if (inside) {
                found.add(line);
            }
        }
        return found;
    }

    private static void exampleIsTrue(List<String> calls) throws Exception {
        LeasePair pair = new LeasePair();
        Set<String> made = new TreeSet<>();
        for (String line : calls) {
            Matcher parts = CALL.matcher(line);
            Check.yes("a call with its answer: " + line, parts.matches());
            Method method = find(parts.group(1));
            Check.due(line, String.valueOf(method.invoke(pair, arguments(parts.group(2)))), parts.group(3));
            made.add(method.getName());
        }
        Check.yes("at most 512 calls", calls.size() <= Counted.LIMIT);
        Check.due("calls that the example uses", made.size(), 14);
    }

    private static Method find(String name) {
        for (Method method : LeasePair.class.getMethods()) {
            if (method.getName().equals(name)) {
                return method;
            }
        }
        throw new IllegalArgumentException("README.md uses a call that there is not: " + name);
    }

    private static Object[] arguments(String text) {
        List<Object> values = new ArrayList<>();
        for (String part : text.split(",")) {
            String word = part.strip();
            if (word.equals("true") || word.equals("false")) {
                values.add(Boolean.valueOf(word));
            } else if (!word.isEmpty()) {
                values.add(Integer.valueOf(word));
            }
        }
        return values.toArray();
    }

    private static void everyTestIsListed(String page) throws Exception {
        try (var files = Files.list(Path.of("src/test/java"))) {
            for (Path file : files.toList()) {
                String name = file.getFileName().toString().replace(".java", "");
                Check.yes("README.md names " + name, page.contains("`" + name + "`"));
            }
        }
    }
}
