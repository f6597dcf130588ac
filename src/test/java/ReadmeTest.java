import java.lang.reflect.Method;
import java.lang.reflect.Modifier;
import java.nio.file.Files;
import java.nio.file.Path;
import java.util.HashSet;
import java.util.Set;
import java.util.regex.Matcher;
import java.util.regex.Pattern;

/** The example of README.md answers as its comments say, and the README tells of every call and every test. */
public final class ReadmeTest {
    private static final Check CHECK = new Check("ReadmeTest");
    private static final Pattern CALL = Pattern.compile("x\\.(\\w+)\\(([^)]*)\\);(?:\\s*// (-?\\d+|true|false)\\b.*)?");

    public static void main(String[] args) throws Exception {
        String readme = Files.readString(Path.of("README.md"));
        example(readme);
        everyCallIsNamed(readme);
        everyTestIsNamed(readme);
        CHECK.finish();
    }

    private static void example(String readme) throws Exception {
        FallBench x = new FallBench();
        Set<String> asked = new HashSet<>();
        int from = readme.indexOf("```java\n") + "```java\n".length();
        for (String line : readme.substring(from, readme.indexOf("```", from)).split("\n")) {
            Matcher call = CALL.matcher(line);
            if (call.matches()) {
                long got = answer(x, call.group(1), call.group(2));
                asked.add(call.group(1));
                if (call.group(3) != null) {
                    CHECK.due("README: " + line, got, number(call.group(3)));
                }
            } else {
                CHECK.due("README: '" + line + "' is a call, a comment or blank",
                        line.isBlank() || line.startsWith("//") || line.equals("FallBench x = new FallBench();"), true);
            }
        }
        CHECK.due("README: calls in the example", asked.size() >= 15, true);
    }

    private static long answer(FallBench x, String name, String given) throws Exception {
        String[] parts = given.isBlank() ? new String[0] : given.split(",");
        for (Method m : FallBench.class.getMethods()) {
            if (m.getName().equals(name) && m.getParameterCount() == parts.length) {
                Object[] values = new Object[parts.length];
                for (int i = 0; i < parts.length; i++) {
                    values[i] = m.getParameterTypes()[i] == boolean.class
                            ? (Object) parts[i].trim().equals("true") : (Object) (int) number(parts[i].trim());
                }
                Object got = m.invoke(x, values);
                return got instanceof Boolean b ? (b ? 1 : 0) : (Integer) got;
            }
        }
        throw new IllegalArgumentException("README: no such call: " + name);
    }

    private static long number(String text) {
        if (text.equals("true") || text.equals("false")) {
            return text.equals("true") ? 1 : 0;
        }
        String[] parts = text.split(" << ");
        long value = Long.decode(parts[0]);
        return parts.length > 1 ? value << Integer.parseInt(parts[1]) : value;
    }

    private static void everyCallIsNamed(String readme) {
        for (Method m : FallBench.class.getDeclaredMethods()) {
            if (Modifier.isPublic(m.getModifiers())) {
                CHECK.due("README: names `" + m.getName() + "`", readme.contains("`" + m.getName() + "`"), true);
            }
        }
    }

    private static void everyTestIsNamed(String readme) throws Exception {
        try (var files = Files.list(Path.of("src/test/java"))) {
            files.map(f -> f.getFileName().toString()).filter(f -> f.endsWith("Test.java")).sorted().forEach(f -> {
                String name = "`" + f.substring(0, f.length() - ".java".length()) + "`";
                CHECK.due("README: tells of " + name, readme.contains("| " + name + " |"), true);
            });
        }
    }
}
