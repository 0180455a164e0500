import java.lang.reflect.InvocationTargetException;
import java.lang.reflect.Method;
import java.nio.file.DirectoryStream;
import java.nio.file.Files;
import java.nio.file.Path;
import java.util.HashMap;
import java.util.List;
import java.util.Map;
import java.util.Set;
import java.util.TreeSet;
import java.util.regex.Matcher;
import java.util.regex.Pattern;

/** README.md: its Java lines are made, one behind the other, on one object, and each must answer what stands behind it. */
public final class ReadmeTest {
    private static final Path README = Path.of("README.md");
    private static final Path TESTS = Path.of("src/test/java");
    private static final Pattern MAKING = Pattern.compile("RainIndex index = new RainIndex\\(\\);\\s+// \\D.*");
    private static final Pattern CALL = Pattern.compile(
            "(?:int (\\w+) = )?(index\\.(\\w+)\\(([^()]*)\\));\\s+// (-?\\d+|throws \\w+)(?:: \\S.*)?");
    private static final Pattern ROW = Pattern.compile("\\| `(\\w+)` \\| \\S.* \\|");

    private final RainIndex index = new RainIndex();
    private final Map<String, Integer> names = new HashMap<>();
    private final Set<String> shown = new TreeSet<>();
    private boolean isMade = false;

    public static void main(String[] args) throws Exception {
        List<String> lines = Files.readAllLines(README);
        ReadmeTest run = new ReadmeTest();
        run.followExample(lines);
        run.showsTheWholeFace();
        namesEachTest(lines);
        Check.report("ReadmeTest");
    }

    private void followExample(List<String> lines) throws Exception {
        boolean isJava = false;
        for (String line : lines) {
            if (line.startsWith("```")) {
                isJava = line.equals("```java");
            } else if (isJava) {
                follow(line);
            }
        }
    }

    private void follow(String line) throws Exception {
        Matcher call = CALL.matcher(line);
        if (!isMade && MAKING.matcher(line).matches()) {
            isMade = true;
        } else if (isMade && call.matches()) {
            String answer = answer(call.group(3), call.group(4));
            Check.alike("README.md: " + call.group(2), answer, call.group(5));
            shown.add(call.group(3));
            if (call.group(1) != null && names.putIfAbsent(call.group(1), Integer.valueOf(answer)) != null) {
                Check.fail("README.md names two answers " + call.group(1));
            }
        } else {
            Check.fail("README.md shows no call with its answer: " + line);
        }
    }

    private String answer(String name, String arguments) throws Exception {
        String[] texts = arguments.isEmpty() ? new String[0] : arguments.split(", ");
        Method method = methodNamed(name, texts.length);
        Object[] values = new Object[texts.length];
        for (int i = 0; i < texts.length; i++) {
            values[i] = valueOf(texts[i], method.getParameterTypes()[i]);
        }
        try {
            return method.invoke(index, values).toString();
        } catch (InvocationTargetException e) {
            return "throws " + e.getCause().getClass().getSimpleName();
        }
    }

    private static Method methodNamed(String name, int arguments) {
        for (Method method : RainIndex.class.getMethods()) {
            if (method.getName().equals(name) && method.getParameterCount() == arguments) {
                return method;
            }
        }
        throw new IllegalStateException("README.md shows a call that there is not: " + name);
    }

    private Object valueOf(String text, Class<?> type) throws Exception {
        if (type == boolean.class) {
            if (!text.equals("true") && !text.equals("false")) {
                throw new IllegalStateException("README.md gives no truth: " + text);
            }
            return Boolean.valueOf(text);
        }
        if (text.startsWith("RainIndex.")) {
            return RainIndex.class.getField(text.substring("RainIndex.".length())).getInt(null);
        }
        return names.containsKey(text) ? names.get(text) : Integer.valueOf(text);
    }

    private void showsTheWholeFace() {
        for (Method method : RainIndex.class.getMethods()) {
            if (method.getDeclaringClass() == RainIndex.class) {
                Check.same("README.md shows " + method.getName(), shown.contains(method.getName()) ? 1 : 0, 1);
            }
        }
    }

    private static void namesEachTest(List<String> lines) throws Exception {
        Set<String> named = new TreeSet<>();
        for (String line : lines) {
            Matcher row = ROW.matcher(line);
            if (row.matches()) {
                named.add(row.group(1));
            }
        }
        Set<String> there = new TreeSet<>();
        try (DirectoryStream<Path> files = Files.newDirectoryStream(TESTS, "*Test.java")) {
            for (Path file : files) {
                there.add(file.getFileName().toString().replace(".java", ""));
            }
        }
        Check.alike("README.md's table", named.toString(), there.toString());
    }
}
