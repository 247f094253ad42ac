import java.lang.reflect.Method;
import java.nio.file.Files;
import java.nio.file.Path;
import java.util.HashMap;
import java.util.Map;
import java.util.Set;
import java.util.TreeSet;
import java.util.regex.Matcher;
import java.util.regex.Pattern;
import java.util.stream.Stream;

/** README.md: each call answers what the remark beside it begins with, all on one object; and its table has all tests. */
public final class ReadmeTest {
    private static final Pattern BLOCK = Pattern.compile("(?s)```java\\n(.*?)```");
    private static final Pattern CALL = Pattern.compile("desk\\.(\\w+)\\(([^)]*)\\);\\s+// (-?\\d+|true|false)\\b.*");
    private static final Pattern LISTED = Pattern.compile("(?m)^\\| `(\\w+Test)` \\|");
    private static final String MADE = "ChartDesk desk = new ChartDesk();";
    private static int wrong = 0;

    private static void must(boolean holds, String what) {
        if (!holds) {
            wrong++;
            System.out.println("README.md: " + what);
        }
    }

    private static Object[] arguments(String text) {
        if (text.isBlank()) {
            return new Object[0];
        }
        String[] words = text.split(",");
        Object[] numbers = new Object[words.length];
        for (int i = 0; i < words.length; i++) {
            numbers[i] = Integer.parseInt(words[i].trim());
        }
        return numbers;
    }

    private static int calls(String page) throws Exception {
        Map<String, Method> methods = new HashMap<>();
        for (Method m : ChartDesk.class.getDeclaredMethods()) {
            methods.put(m.getName(), m);
        }
        ChartDesk desk = new ChartDesk();
        int asked = 0;
        Matcher blocks = BLOCK.matcher(page);
        while (blocks.find()) {
            for (String line : blocks.group(1).split("\n")) {
                Matcher call = CALL.matcher(line);
                if (call.matches()) {
                    Object got = methods.get(call.group(1)).invoke(desk, arguments(call.group(2)));
                    must(got.toString().equals(call.group(3)), line + " (it answers " + got + ")");
                    asked++;
                } else {
                    must(line.equals(MADE), "no call with its answer: " + line);
                }
            }
        }
        return asked;
    }

    private static void table(String page) throws Exception {
        Set<String> listed = new TreeSet<>();
        Matcher rows = LISTED.matcher(page);
        while (rows.find()) {
            listed.add(rows.group(1));
        }
        Set<String> there = new TreeSet<>();
        try (Stream<Path> files = Files.list(Path.of("src/test/java"))) {
            files.map(f -> f.getFileName().toString()).filter(n -> n.endsWith("Test.java"))
                    .forEach(n -> there.add(n.replace(".java", "")));
        }
        must(listed.equals(there), "its table has " + listed + ", but there are " + there);
    }

    public static void main(String[] arguments) throws Exception {
        String page = Files.readString(Path.of("README.md"));
        int asked = calls(page);
        must(asked > 20, "only " + asked + " calls were read");
        table(page);
        System.out.println(asked + " calls of README.md: " + (wrong == 0 ? "all are as due" : wrong + " are not as due"));
        if (wrong != 0) {
            System.exit(1);
        }
    }
}
