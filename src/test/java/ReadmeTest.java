import java.io.IOException;
import java.lang.reflect.Method;
import java.nio.file.Files;
import java.nio.file.Path;
import java.util.Set;
import java.util.TreeSet;
import java.util.regex.Matcher;
import java.util.regex.Pattern;

/** README.md: each row of its example answers what its comment says, and its table has every call of the face. */
public final class ReadmeTest {
    private static final Pattern ROW = Pattern.compile("(?m)^x\\.(\\w+)\\(([^;]*)\\); +// (-?\\d+): ");

    private ReadmeTest() {
    }

    public static void main(String[] args) throws IOException, ReflectiveOperationException {
        String readme = Files.readString(Path.of("README.md"));
        example(readme);
        table(readme);
        Answers.finish();
    }

    private static void example(String readme) throws ReflectiveOperationException {
        SixFigures x = new SixFigures();
        Matcher matcher = ROW.matcher(readme);
        int rows = 0;
        while (matcher.find()) {
            rows++;
            Method method = named(matcher.group(1));
            Object[] arguments = arguments(method, matcher.group(2));
            Answers.due("README: " + matcher.group(), (int) method.invoke(x, arguments), Integer.parseInt(matcher.group(3)));
        }
        Answers.due("rows of the example", rows, readme.split("(?m)^x\\.").length - 1);
        Answers.due("there is an example", rows > 10 ? 1 : 0, 1);
    }

    private static Method named(String name) {
        for (Method method : SixFigures.class.getMethods()) {
            if (method.getName().equals(name) && method.getDeclaringClass() == SixFigures.class) {
                return method;
            }
        }
        throw new IllegalStateException("no such call: " + name);
    }

    private static Object[] arguments(Method method, String words) {
        Class<?>[] types = method.getParameterTypes();
        String[] parts = words.isEmpty() ? new String[0] : words.split(", ");
        Object[] arguments = new Object[types.length];
        Answers.due("arguments of " + method.getName(), parts.length, types.length);
        for (int i = 0; i < types.length; i++) {
            long number = Long.decode(parts[i].replace("L", ""));
            if (types[i] == long.class) {
                arguments[i] = number;
            } else {
                arguments[i] = (int) number;
            }
        }
        return arguments;
    }

    private static void table(String readme) {
        Set<String> there = new TreeSet<>();
        Matcher rows = Pattern.compile("(?m)^\\| (`.*`) \\|").matcher(readme);
        while (rows.find()) {
            for (String name : rows.group(1).split(", ")) {
                Answers.due(name + " stands once", there.add(name.replace("`", "")) ? 1 : 0, 1);
            }
        }
        Answers.due("calls of the table", there.size(), 40);
        for (String name : there) {
            Answers.due(name + " is a call", named(name).getName().equals(name) ? 1 : 0, 1);
        }
    }
}
