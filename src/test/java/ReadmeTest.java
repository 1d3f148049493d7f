import java.io.IOException;
import java.lang.reflect.Field;
import java.lang.reflect.Method;
import java.lang.reflect.Modifier;
import java.nio.file.Files;
import java.nio.file.Path;
import java.util.HashSet;
import java.util.Set;
import java.util.regex.Matcher;
import java.util.regex.Pattern;

/** The runs that README.md shows answer as it says, and it names every call and every constant. */
public final class ReadmeTest {
    private static final Pattern MADE = Pattern.compile("ShirtButtons machine = new ShirtButtons\\(\\);");
    private static final Pattern WRITTEN = Pattern.compile("write\\(machine, \"([^\"]*)\"\\);");
    private static final Pattern CALL = Pattern.compile("machine\\.(\\w+)\\(([-0-9, ]*)\\);\\s+// (-?\\d+): .*");
    private static final Pattern ROW = Pattern.compile("\\| `(\\w+)\\(([a-z, ]*)\\)` \\|.*");
    private static final Pattern CONSTANT = Pattern.compile("`([A-Z_]+)` (?:- (\\d) )?= (-\\d+)");

    private static final Check check = new Check("ReadmeTest");

    public static void main(String[] args) throws IOException, ReflectiveOperationException {
        String page = Files.readString(Path.of("README.md"));
        runs(page);
        rows(page);
        constants(page);
        check.end();
    }

    private static void runs(String page) throws ReflectiveOperationException {
        ShirtButtons machine = null;
        int calls = 0;
        for (String line : page.split("\n")) {
            Matcher written = WRITTEN.matcher(line);
            Matcher call = CALL.matcher(line);
            if (MADE.matcher(line).matches()) {
                machine = new ShirtButtons();
            } else if (written.matches()) {
                Check.write(machine, written.group(1));
            } else if (call.matches()) {
                calls++;
                check.due(line, answer(machine, call.group(1), call.group(2)), Integer.parseInt(call.group(3)));
            } else {
                check.due("a call that this test doesn't understand: " + line, line.startsWith("machine."), false);
            }
        }
        check.due("runs were found", calls > 20, true);
    }

    private static Object answer(ShirtButtons machine, String name, String arguments)
            throws ReflectiveOperationException {
        String[] numbers = arguments.isEmpty() ? new String[0] : arguments.split(", ");
        Class<?>[] types = new Class<?>[numbers.length];
        Object[] values = new Object[numbers.length];
        for (int i = 0; i < numbers.length; i++) {
            types[i] = int.class;
            values[i] = Integer.valueOf(numbers[i]);
        }
        return ShirtButtons.class.getMethod(name, types).invoke(machine, values);
    }

    private static void rows(String page) {
        Set<String> found = new HashSet<>();
        for (String line : page.split("\n")) {
            Matcher row = ROW.matcher(line);
            if (row.matches()) {
                int arguments = row.group(2).isEmpty() ? 0 : row.group(2).split(", ").length;
                found.add(row.group(1) + " " + arguments);
            }
        }
        Set<String> wants = new HashSet<>();
        for (Method method : ShirtButtons.class.getDeclaredMethods()) {
            if (Modifier.isPublic(method.getModifiers())) {
                wants.add(method.getName() + " " + method.getParameterCount());
            }
        }
        check.due("the calls that have a row", found, wants);
    }

    private static void constants(String page) throws ReflectiveOperationException {
        Set<String> found = new HashSet<>();
        Matcher constant = CONSTANT.matcher(page);
        while (constant.find()) {
            int less = constant.group(2) == null ? 0 : Integer.parseInt(constant.group(2));
            Field field = ShirtButtons.class.getField(constant.group(1));
            check.due(constant.group(), Integer.valueOf(constant.group(3)), field.getInt(null) - less);
            found.add(field.getName());
        }
        check.due("the constants that are named", found,
            Set.of("UNKNOWN", "OUT_OF_RANGE", "FULL", "NOT_POSSIBLE", "NONE", "REFUSED"));
    }
}
