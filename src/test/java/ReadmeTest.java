import java.io.IOException;
import java.lang.reflect.Method;
import java.nio.file.Files;
import java.nio.file.Path;
import java.util.HashSet;
import java.util.Map;
import java.util.Set;
import java.util.regex.Matcher;
import java.util.regex.Pattern;

/** README.md: each call of its examples answers what stands behind it, and no call of the face is left out. */
public final class ReadmeTest {
    private static final Pattern EXAMPLE = Pattern.compile("```java\n(.*?)```", Pattern.DOTALL);
    private static final Pattern CALL = Pattern.compile("x\\.(\\w+)\\((.*)\\); +// (-?\\d+|[A-Z]+)(:.*)?");
    private static final String MADE = "NearMarks x = new NearMarks();";
    private static final Map<String, Integer> NAMES = Map.of("NONE", NearMarks.NONE, "UNKNOWN", NearMarks.UNKNOWN,
        "OUTSIDE", NearMarks.OUTSIDE, "NOT", NearMarks.NOT, "FULL", NearMarks.FULL);

    public static void main(String[] args) throws IOException, ReflectiveOperationException {
        String readme = Files.readString(Path.of("README.md"));
        Matcher example = EXAMPLE.matcher(readme);
        while (example.find()) {
            run(example.group(1));
        }
        everyCallIsNamed(readme);
        Check.holds("how the tests are run", readme.contains(".ci/run"));
        Check.end();
    }

    private static void run(String example) throws ReflectiveOperationException {
        String[] lines = example.split("\n");
        Check.holds("an example begins with " + MADE, lines[0].equals(MADE));
        NearMarks x = new NearMarks();
        for (int i = 1; i < lines.length; i++) {
            Matcher call = CALL.matcher(lines[i]);
            boolean read = call.matches();
            Check.holds("a call with its answer: " + lines[i], read);
            if (read) {
                Check.due(lines[i], answer(x, call.group(1), call.group(2)), numberOf(call.group(3)));
            }
        }
    }

    private static long numberOf(String due) {
        return NAMES.containsKey(due) ? NAMES.get(due) : Long.parseLong(due);
    }

    private static long answer(NearMarks x, String name, String written) throws ReflectiveOperationException {
        String[] numbers = written.isEmpty() ? new String[0] : written.split(", ");
        Method method = methodOf(name);
        Object[] arguments = new Object[numbers.length];
        for (int i = 0; i < numbers.length; i++) {
            arguments[i] = method.getParameterTypes()[i] == long.class
                ? (Object) Long.valueOf(numbers[i].replace("L", "")) : (Object) Integer.valueOf(numbers[i]);
        }
        return ((Number) method.invoke(x, arguments)).longValue();
    }

    private static Method methodOf(String name) throws NoSuchMethodException {
        for (Method method : NearMarks.class.getMethods()) {
            if (method.getName().equals(name)) {
                return method;
            }
        }
        throw new NoSuchMethodException(name);
    }

    private static void everyCallIsNamed(String readme) {
        Set<String> named = new HashSet<>();
        Matcher code = Pattern.compile("`(\\w+\\([\\w, ]*\\))`").matcher(readme);
        while (code.find()) {
            named.add(code.group(1));
        }
        for (String line : Doc.face()) {
            Matcher head = Pattern.compile("public (?:int|long) (\\w+)\\((.*)\\);").matcher(line);
            if (head.matches()) {
                String call = head.group(1) + "(" + head.group(2).replaceAll("(int|long) ", "") + ")";
                Check.holds("README.md names " + call, named.contains(call));
            }
        }
    }
}
