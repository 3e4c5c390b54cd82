import java.io.IOException;
import java.lang.reflect.InvocationTargetException;
import java.lang.reflect.Method;
import java.lang.reflect.Modifier;
import java.nio.charset.StandardCharsets;
import java.nio.file.Files;
import java.nio.file.Path;
import java.util.List;
import java.util.Set;
import java.util.regex.Matcher;
import java.util.regex.Pattern;

/** README.md tells no wrong answer, and each call with its exceptions. */
final class ReadmeTest {
    private static final Pattern CALL =
        Pattern.compile(" *capsule\\.(\\w+)\\(([^)]*)\\); *// (-?\\d+|throws \\w+)\\b.*");
    private static final Pattern TEXT = Pattern.compile("for \\(char sign : \"([^\"]*)\"\\.toCharArray\\(\\)\\) \\{");
    private static final Pattern ROW = Pattern.compile("\\| `(\\w+)\\(([^)]*)\\)`( \\*)? \\|[^|]*\\|([^|]*)\\|");

    private static final Set<String> UNDOABLE =
        Set.of("keeper", "die", "heir", "quarrel", "seal", "renew", "forge", "pass", "open", "live");

    public static void main(String[] args) throws IOException, IllegalAccessException {
        List<String> lines = Files.readAllLines(Path.of("README.md"), StandardCharsets.UTF_8);
        Checks.due("answers of the example", example(lines), 15);
        for (Method method : CapsuleKeepers.class.getDeclaredMethods()) {
            if (Modifier.isPublic(method.getModifiers())) {
                Checks.due("rows for " + method.getName(), rowsFor(lines, method), 1);
            }
        }
        Checks.finish("ReadmeTest");
    }

    private static int example(List<String> lines) throws IllegalAccessException {
        CapsuleKeepers capsule = new CapsuleKeepers();
        int answers = 0;
        for (String line : lines) {
            Matcher text = TEXT.matcher(line);
            Matcher call = CALL.matcher(line);
            if (text.matches()) {
                Checks.write(capsule, text.group(1));
            } else if (call.matches()) {
                Checks.due(line, answers(capsule, call.group(1), call.group(2), call.group(3)) ? 1 : 0, 1);
                answers++;
            }
        }
        return answers;
    }

    private static boolean answers(CapsuleKeepers capsule, String name, String arguments, String want)
            throws IllegalAccessException {
        String[] words = arguments.isEmpty() ? new String[0] : arguments.split(", ");
        Object[] given = new Object[words.length];
        for (int i = 0; i < words.length; i++) {
            given[i] = Integer.parseInt(words[i]);
        }
        String got;
        try {
            got = String.valueOf(named(name).invoke(capsule, given));
        } catch (InvocationTargetException e) {
            got = "throws " + e.getCause().getClass().getSimpleName();
        }
        return got.equals(want);
    }

    private static Method named(String name) {
        for (Method method : CapsuleKeepers.class.getDeclaredMethods()) {
            if (method.getName().equals(name)) {
                return method;
            }
        }
        throw new IllegalArgumentException("README.md has a call that is not there: " + name);
    }

    private static int rowsFor(List<String> lines, Method method) {
        int rows = 0;
        for (String line : lines) {
            Matcher row = ROW.matcher(line);
            if (row.matches() && row.group(1).equals(method.getName())) {
                rows++;
                int parameters = row.group(2).isEmpty() ? 0 : row.group(2).split(", ").length;
                Checks.due("parameters in " + line, parameters, method.getParameterCount());
                int undoable = UNDOABLE.contains(row.group(1)) ? 1 : 0;
                Checks.due("undoable in " + line, row.group(3) == null ? 0 : 1, undoable);
                Checks.due("exceptions in " + line, row.group(4).trim().equals(exceptions(method)) ? 1 : 0, 1);
            }
        }
        return rows;
    }

    private static String exceptions(Method method) {
        StringBuilder told = new StringBuilder();
        for (Class<?> type : method.getExceptionTypes()) {
            told.append(told.length() == 0 ? "`" : ", `").append(type.getSimpleName()).append('`');
        }
        return told.toString();
    }
}
