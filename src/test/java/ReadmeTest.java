import java.io.IOException;
import java.lang.reflect.Method;
import java.nio.file.Files;
import java.nio.file.Path;
import java.util.HashMap;
import java.util.Map;
import java.util.Set;
import java.util.TreeSet;
import java.util.regex.Matcher;
import java.util.regex.Pattern;

/** README.md tells the truth: its example, line by line, on one object; run from the project's folder. */
public final class ReadmeTest {
    private static final Pattern CALL =
        Pattern.compile("(?:int (\\w+) = )?trap\\.(\\w+)\\(([^)]*)\\);\\s+// (-?\\d+): .*");
    private static final Pattern CHANGED = Pattern.compile("int (\\w+) = (\\w+) \\^ (\\d+);\\s+// .*");
    private static final Pattern REFUSAL = Pattern.compile("\\| `(\\w+)` *\\| (-\\d+) \\|.*");
    private static final Check CHECK = new Check();

    private final TripleTrap trap = new TripleTrap();
    private final Map<String, Integer> names = new HashMap<>();
    private final Set<String> asked = new TreeSet<>();

    public static void main(String[] args) throws IOException, ReflectiveOperationException {
        String text = Files.readString(Path.of("README.md"));
        new ReadmeTest().example(text);
        refusals(text);
        CHECK.end();
    }

    private void example(String text) throws ReflectiveOperationException {
        int start = text.indexOf("```java\n");
        int end = text.indexOf("\n```", start + 1);
        CHECK.holds("there is an example", start >= 0 && end > start);
        for (String line : text.substring(Math.max(start, 0), Math.max(end, 0)).split("\n")) {
            line(line);
        }
        for (Method m : TripleTrap.class.getDeclaredMethods()) {
            if (java.lang.reflect.Modifier.isPublic(m.getModifiers())) {
                CHECK.holds("the example has no " + m.getName(), asked.contains(m.getName()));
            }
        }
    }

    private void line(String line) throws ReflectiveOperationException {
        Matcher call = CALL.matcher(line);
        Matcher changed = CHANGED.matcher(line);
        if (call.matches()) {
            int answer = answer(call.group(2), call.group(3).split(", "));
            CHECK.due(line.substring(0, line.indexOf(';')), answer, Integer.parseInt(call.group(4)));
            names.put(call.group(1), answer);
        } else if (changed.matches()) {
            names.put(changed.group(1), number(changed.group(2)) ^ number(changed.group(3)));
        } else {
            boolean bare = line.isEmpty() || line.equals("```java") || line.equals("TripleTrap trap = new TripleTrap();");
            CHECK.holds("a line of the example that is not looked at: " + line, bare);
        }
    }

    private int answer(String name, String[] numbers) throws ReflectiveOperationException {
        Class<?>[] types = new Class<?>[numbers.length];
        Object[] values = new Object[numbers.length];
        for (int i = 0; i < numbers.length; i++) {
            types[i] = int.class;
            values[i] = number(numbers[i]);
        }
        asked.add(name);
        return (Integer) TripleTrap.class.getMethod(name, types).invoke(trap, values);
    }

    private int number(String text) {
        return names.containsKey(text) ? names.get(text) : Integer.parseInt(text);
    }

    private static void refusals(String text) throws ReflectiveOperationException {
        Set<String> seen = new TreeSet<>();
        for (String line : text.split("\n")) {
            Matcher row = REFUSAL.matcher(line);
            if (row.matches()) {
                seen.add(row.group(1));
                CHECK.due(row.group(1), TripleTrap.class.getField(row.group(1)).getInt(null),
                    Integer.parseInt(row.group(2)));
            }
        }
        CHECK.due("all refusals are told", seen.size(), 6);
    }
}
