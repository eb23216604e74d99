import java.io.IOException;
import java.lang.reflect.Method;
import java.lang.reflect.Modifier;
import java.nio.file.Files;
import java.nio.file.Path;
import java.util.Map;
import java.util.regex.Matcher;
import java.util.regex.Pattern;

/** What README.md shows is so; the argument is the path of the source, from which README.md is found. */
public final class ReadmeTest {
    private static final int FEWEST_CALLS = 10;
    private static final Pattern TEXT = Pattern.compile("\"([^\"]*)\"\\.toCharArray\\(\\)");
    private static final Pattern CALL = Pattern.compile("(?m)^town\\.(\\w+)\\(([^)]*)\\); +// ([-\\w]+):");
    private static final Map<String, Long> NAMES = Map.of("NONE", -1L, "UNKNOWN", -101L, "OUTSIDE", -102L,
        "STATE", -103L, "FULL", -104L);

    public static void main(String[] args) throws IOException, ReflectiveOperationException {
        String readme = Files.readString(Path.of(args[0]).resolveSibling("../../../README.md"));
        Check check = new Check();
        runExample(readme, check);
        for (Method method : TurningTown.class.getDeclaredMethods()) {
            if (Modifier.isPublic(method.getModifiers())) {
                check.due(method.getName() + "() has a row of its own", hasRow(method, readme) ? 1 : 0, 1);
            }
        }
        check.end();
    }

    private static void runExample(String readme, Check check) throws ReflectiveOperationException {
        int begin = readme.indexOf("```java");
        String example = readme.substring(begin, readme.indexOf("```\n", begin + 3));
        Matcher text = TEXT.matcher(example);
        check.due("the example writes a square", text.find() ? 1 : 0, 1);
        TurningTown town = new TurningTown();
        Check.write(town, text.group(1));
        Matcher call = CALL.matcher(example);
        int calls = 0;
        for (; call.find(); calls++) {
            check.due(call.group(), answer(town, call.group(1), call.group(2)), number(call.group(3)));
        }
        check.due("the example has calls", calls >= FEWEST_CALLS ? 1 : 0, 1);
    }

    private static long answer(TurningTown town, String name, String told) throws ReflectiveOperationException {
        String[] numbers = told.isEmpty() ? new String[0] : told.split(", ");
        Class<?>[] types = new Class<?>[numbers.length];
        Object[] values = new Object[numbers.length];
        for (int i = 0; i < numbers.length; i++) {
            types[i] = int.class;
            values[i] = Integer.valueOf(numbers[i]);
        }
        return ((Number) TurningTown.class.getMethod(name, types).invoke(town, values)).longValue();
    }

    private static long number(String told) {
        return NAMES.containsKey(told) ? NAMES.get(told) : Long.parseLong(told);
    }

    /** As many names between the brackets as the call takes numbers. */
    private static boolean hasRow(Method method, String readme) {
        Matcher row = Pattern.compile("(?m)^\\| `" + method.getName() + "\\(([^)]*)\\)` \\|").matcher(readme);
        if (!row.find()) {
            return false;
        }
        int names = row.group(1).isEmpty() ? 0 : row.group(1).split(", ").length;
        return names == method.getParameterCount();
    }
}
