import java.io.IOException;
import java.lang.reflect.InvocationTargetException;
import java.lang.reflect.Method;
import java.nio.file.Files;
import java.nio.file.Path;
import java.util.Arrays;
import java.util.HashMap;
import java.util.Map;
import java.util.Set;
import java.util.TreeSet;
import java.util.regex.Matcher;
import java.util.regex.Pattern;

/** README.md: its example answers what it says that it answers, and its table has every call. */
public final class ReadmeTest {
    private static final Path README = Path.of("README.md");
    private static final Pattern EXAMPLE =
        Pattern.compile("(?:int (\\w+) = )?map\\.(\\w+)\\((.*?)\\); +// (throws )?(-?\\w+).*");
    private static final Pattern ROW = Pattern.compile("\\| `(\\w+)\\((.*?)\\)` \\| .*");

    private final OrderedVersions map = new OrderedVersions();
    private final Map<String, Object> names = new HashMap<>(Map.of("true", true, "false", false));

    private ReadmeTest() {
    }

    public static void main(String[] args) throws IOException, IllegalAccessException {
        ReadmeTest test = new ReadmeTest();
        Set<String> told = new TreeSet<>();
        int examples = 0;
        for (String line : Files.readAllLines(README)) {
            Matcher example = EXAMPLE.matcher(line);
            Matcher row = ROW.matcher(line);
            if (example.matches()) {
                examples++;
                test.answers(example);
            } else if (row.matches()) {
                told.add(row.group(1) + " " + (row.group(2).isEmpty() ? 0 : row.group(2).split(",").length));
            } else {
                Check.due("'" + line + "' is a call without its answer",
                    line.matches("(int \\w+ = )?map\\..*"), false);
            }
        }
        Check.due("there are examples", examples > 0, true);
        Check.same("calls in the table", told, calls());
        Check.finish("ReadmeTest");
    }

    private static Set<String> calls() {
        Set<String> all = new TreeSet<>();
        for (Method method : OrderedVersions.class.getMethods()) {
            if (method.getDeclaringClass() == OrderedVersions.class) {
                all.add(method.getName() + " " + method.getParameterCount());
            }
        }
        return all;
    }

    private void answers(Matcher example) throws IllegalAccessException {
        Object answer = call(named(example.group(2)), example.group(3));
        Check.same(example.group(), answer.toString(), example.group(5));
        if (example.group(1) != null) {
            names.put(example.group(1), answer);
        }
    }

    private Object call(Method method, String arguments) throws IllegalAccessException {
        Object[] values = arguments.isEmpty() ? new Object[0]
            : Arrays.stream(arguments.split(", ")).map(text -> value(text)).toArray();
        try {
            return method.invoke(map, values);
        } catch (InvocationTargetException e) {
            return e.getCause().getClass().getSimpleName();
        }
    }

    private Object value(String text) {
        return names.containsKey(text) ? names.get(text) : Integer.valueOf(text);
    }

    private static Method named(String name) {
        return Arrays.stream(OrderedVersions.class.getMethods())
            .filter(method -> method.getName().equals(name)).findFirst().orElseThrow();
    }
}
