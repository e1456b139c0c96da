import java.lang.reflect.InvocationTargetException;
import java.lang.reflect.Method;
import java.nio.file.Files;
import java.nio.file.Path;
import java.util.List;
import java.util.regex.Matcher;
import java.util.regex.Pattern;

/** What README.md says of the class: its example is called line by line, and its table has every call. */
public final class ReadmeTest {
    private static final Pattern CALL = Pattern.compile("\\bx\\.(\\w+)\\(([^)]*)\\);");
    private static final Pattern TOLD_ANSWER = Pattern.compile("// (-?\\d+):");
    private static final Pattern TOLD_CALL = Pattern.compile("(\\w+)\\((\\d+)\\) = (-?\\d+)");

    public static void main(String[] args) throws Exception {
        List<String> lines = Files.readAllLines(Path.of("README.md"));
        int from = lines.indexOf("```java");
        int to = lines.lastIndexOf("```java");
        Due.holds("there is just one example", from >= 0 && from == to);
        LeastSolutions x = new LeastSolutions();
        for (int i = from + 1; i < lines.size() && !lines.get(i).equals("```"); i++) {
            line(x, lines.get(i));
        }
        for (Method method : LeastSolutions.class.getMethods()) {
            if (method.getDeclaringClass() == LeastSolutions.class) {
                row(lines, method);
            }
        }
        Due.end("ReadmeTest");
    }

    private static void line(LeastSolutions x, String line) throws Exception {
        Object latest = null;
        Matcher call = CALL.matcher(line);
        while (call.find()) {
            latest = called(x, call.group(1), call.group(2));
        }
        Matcher answer = TOLD_ANSWER.matcher(line);
        if (answer.find()) {
            Due.answer(line.trim(), ((Number) latest).longValue(), Long.parseLong(answer.group(1)));
        }
        Matcher told = TOLD_CALL.matcher(line);
        while (told.find()) {
            Object got = called(x, told.group(1), told.group(2));
            Due.answer(told.group(), ((Number) got).longValue(), Long.parseLong(told.group(3)));
        }
    }

    private static Object called(LeastSolutions x, String name, String written) throws Exception {
        for (Method method : LeastSolutions.class.getMethods()) {
            if (method.getDeclaringClass() == LeastSolutions.class && method.getName().equals(name)) {
                return called(x, method, written.isEmpty() ? new String[0] : written.split(", "));
            }
        }
        throw new IllegalStateException("no such call: " + name);
    }

    private static Object called(LeastSolutions x, Method method, String[] written) throws Exception {
        Class<?>[] types = method.getParameterTypes();
        Object[] arguments = new Object[written.length];
        for (int i = 0; i < written.length; i++) {
            long number = Long.decode(written[i].replace("L", ""));
            arguments[i] = types[i] == long.class ? (Object) number : (Object) (int) number;
        }
        try {
            return method.invoke(x, arguments);
        } catch (InvocationTargetException e) {
            throw new IllegalStateException(method.getName() + " threw " + e.getCause());
        }
    }

    /** The row of a call names each exception that it may throw, without the end of its name. */
    private static void row(List<String> lines, Method method) {
        String row = "";
        for (String line : lines) {
            if (line.startsWith("| `" + method.getName() + "(")) {
                row = line;
            }
        }
        Due.holds("the table has " + method.getName(), !row.isEmpty());
        for (Class<?> exception : method.getExceptionTypes()) {
            String name = exception.getSimpleName().replace("Exception", "");
            Due.holds("the row of " + method.getName() + " has " + name, row.contains(name));
        }
    }
}
