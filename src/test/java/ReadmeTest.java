import java.io.IOException;
import java.lang.reflect.Field;
import java.lang.reflect.Method;
import java.lang.reflect.Modifier;
import java.nio.file.Files;
import java.nio.file.Path;
import java.util.ArrayList;
import java.util.List;
import java.util.Set;
import java.util.TreeMap;
import java.util.TreeSet;
import java.util.regex.Matcher;
import java.util.regex.Pattern;

/**
 * README.md: the calls of its example answer what stands behind them there, and its tables name every
 * method and every constant of the class. It is read from the directory that the test is run in.
 */
final class ReadmeTest {
    private static final Due DUE = new Due("ReadmeTest");
    private static final String FIRST = "OrphanRuntime runtime = new OrphanRuntime();";
    /** An answer is a number, true, false, a constant's name, or 'nothing'; why comes behind a colon. */
    private static final Pattern CALL =
        Pattern.compile("runtime\\.(\\w+)\\((.*)\\); +// (-?\\d+|[A-Z]+|true|false|nothing)(: .+)?");
    private static final Pattern CALL_ROW = Pattern.compile("\\| `(\\w+)\\((.*)\\)` \\|.*");
    private static final Pattern CONSTANT_ROW = Pattern.compile("\\| `([A-Z]+)` \\| (-?\\d+) \\|");

    public static void main(String[] args) throws IOException, ReflectiveOperationException {
        List<String> readme = Files.readAllLines(Path.of("README.md"));
        example(codeOf(readme));
        callTable(readme);
        constantTable(readme);
        DUE.end();
    }

    /** The lines of the only Java block, without those that are blank or a comment alone. */
    private static List<String> codeOf(List<String> readme) {
        List<String> code = new ArrayList<>();
        boolean inside = false;
        int blocks = 0;
        for (String line : readme) {
            if (line.startsWith("```")) {
                inside = line.equals("```java");
                blocks += inside ? 1 : 0;
            } else if (inside && !line.isBlank() && !line.startsWith("//")) {
                code.add(line);
            }
        }
        DUE.is("number of examples", blocks, 1);
        return code;
    }

    private static void example(List<String> code) throws ReflectiveOperationException {
        DUE.is("the example begins with " + FIRST, !code.isEmpty() && code.get(0).equals(FIRST), true);
        OrphanRuntime runtime = new OrphanRuntime();
        Set<String> called = new TreeSet<>();
        for (int k = 1; k < code.size(); k++) {
            Matcher call = CALL.matcher(code.get(k));
            DUE.is("a call with its answer: " + code.get(k), call.matches(), true);
            if (call.matches()) {
                called.add(call.group(1));
                compare(runtime, call);
            }
        }
        DUE.is("every method is called, but only " + called, called.equals(methods().keySet()), true);
        DUE.is("the example stays within 512 calls", code.size() <= 512, true);
    }

    private static void compare(OrphanRuntime runtime, Matcher call) throws ReflectiveOperationException {
        String text = call.group(1) + "(" + call.group(2) + ")";
        Method method = methods().get(call.group(1));
        Object[] values = numbers(call.group(2));
        boolean known = method != null && method.getParameterCount() == values.length;
        DUE.is(text + " is a call of the class", known, true);
        if (known) {
            String got = String.valueOf(method.invoke(runtime, values));
            String want = plain(call.group(3));
            DUE.is(text + " answered " + got + ", README.md says " + want, got.equals(want), true);
        }
    }

    private static Object[] numbers(String list) {
        if (list.isEmpty()) {
            return new Object[0];
        }
        List<Object> values = new ArrayList<>();
        for (String number : list.split(", ")) {
            values.add(Integer.valueOf(number));
        }
        return values.toArray();
    }

    /** As String.valueOf writes the answer; invoke gives null where a method answers nothing. */
    private static String plain(String answer) throws ReflectiveOperationException {
        if (answer.equals("nothing")) {
            return "null";
        }
        Field constant = constants().get(answer);
        return constant == null ? answer : String.valueOf(constant.getInt(null));
    }

    private static void callTable(List<String> readme) {
        Set<String> rows = new TreeSet<>();
        for (String line : readme) {
            Matcher row = CALL_ROW.matcher(line);
            if (row.matches()) {
                Method method = methods().get(row.group(1));
                int parameters = row.group(2).isEmpty() ? 0 : row.group(2).split(", ").length;
                DUE.is("parameters of " + row.group(1), parameters, method == null ? -1 : method.getParameterCount());
                DUE.is("one row for " + row.group(1), rows.add(row.group(1)), true);
            }
        }
        DUE.is("every method has a row, but only " + rows, rows.equals(methods().keySet()), true);
    }

    private static void constantTable(List<String> readme) throws ReflectiveOperationException {
        Set<String> rows = new TreeSet<>();
        for (String line : readme) {
            Matcher row = CONSTANT_ROW.matcher(line);
            if (row.matches()) {
                String name = row.group(1);
                rows.add(name);
                DUE.is("value of " + name + " is " + row.group(2), plain(name).equals(row.group(2)), true);
            }
        }
        DUE.is("every constant has a row, but only " + rows, rows.equals(constants().keySet()), true);
    }

    private static TreeMap<String, Method> methods() {
        TreeMap<String, Method> all = new TreeMap<>();
        for (Method method : OrphanRuntime.class.getDeclaredMethods()) {
            if (Modifier.isPublic(method.getModifiers())) {
                all.put(method.getName(), method);
            }
        }
        return all;
    }

    private static TreeMap<String, Field> constants() {
        TreeMap<String, Field> all = new TreeMap<>();
        for (Field field : OrphanRuntime.class.getDeclaredFields()) {
            if (Modifier.isPublic(field.getModifiers())) {
                all.put(field.getName(), field);
            }
        }
        return all;
    }
}
