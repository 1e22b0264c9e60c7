import java.io.IOException;
import java.lang.reflect.InvocationTargetException;
import java.lang.reflect.Method;
import java.lang.reflect.Modifier;
import java.nio.file.Files;
import java.nio.file.Path;
import java.util.ArrayList;
import java.util.HashMap;
import java.util.List;
import java.util.Map;
import java.util.Set;
import java.util.TreeSet;
import java.util.regex.Matcher;
import java.util.regex.Pattern;

/** Runs README.md's example and holds its table of calls against the class, so that neither goes stale. */
public final class SweepEqualReadme {
    private static final Pattern CALL =
            Pattern.compile("(?:int (\\w+) = )?x\\.(\\w+)\\(([^)]*)\\);\\s+// (-?\\d+|\\w+)(?::.*)?");
    private static final Pattern ROW = Pattern.compile("\\| `(\\w+) (\\w+)\\(([^)]*)\\)` \\|.*\\|([^|]*)\\|");
    private static final Pattern EXCEPTION = Pattern.compile("\\w+Exception");

    private static int wrong = 0;

    public static void main(String[] args) throws IOException, IllegalAccessException {
        List<String> lines = Files.readAllLines(Path.of("README.md"));
        Set<String> used = runExample(lines);
        compareTable(lines);
        for (Method method : SweepEqual.class.getDeclaredMethods()) {
            if (isOfFace(method) && !used.contains(method.getName())) {
                tell("the example does not call " + method.getName());
            }
        }
        System.out.println(wrong == 0 ? "README.md tells what the class does" : wrong + " faults in README.md");
        if (wrong != 0) {
            System.exit(1);
        }
    }

    private static void tell(String text) {
        wrong++;
        System.out.println(text);
    }

    private static boolean isOfFace(Method method) {
        return Modifier.isPublic(method.getModifiers());
    }

    private static Set<String> runExample(List<String> lines) throws IllegalAccessException {
        SweepEqual x = new SweepEqual();
        Map<String, Integer> variables = new HashMap<>();
        Set<String> used = new TreeSet<>();
        for (String line : exampleLines(lines)) {
            Matcher call = CALL.matcher(line);
            if (!call.matches()) {
                tell("cannot be run: " + line);
                continue;
            }
            used.add(call.group(2));
            Object got = answer(x, call.group(2), arguments(call.group(3), variables));
            if (!call.group(4).equals(String.valueOf(got))) {
                tell("answered " + got + ": " + line);
            }
            if (call.group(1) != null && got instanceof Integer) {
                variables.put(call.group(1), (Integer) got);
            }
        }
        return used;
    }

    /** What stands in the block of Java behind the line that makes the object. */
    private static List<String> exampleLines(List<String> lines) {
        int from = lines.indexOf("SweepEqual x = new SweepEqual();") + 1;
        int to = from;
        while (from > 0 && to < lines.size() && !lines.get(to).equals("```")) {
            to++;
        }
        return lines.subList(from, to);
    }

    private static Object[] arguments(String text, Map<String, Integer> variables) {
        List<Object> values = new ArrayList<>();
        for (String argument : text.isEmpty() ? new String[0] : text.split(", ")) {
            int sum = 0;
            for (String part : argument.split(" \\+ ")) {
                sum += variables.containsKey(part) ? variables.get(part) : Integer.parseInt(part);
            }
            values.add(sum);
        }
        return values.toArray();
    }

    private static Object answer(SweepEqual x, String name, Object[] arguments) throws IllegalAccessException {
        for (Method method : SweepEqual.class.getDeclaredMethods()) {
            if (isOfFace(method) && method.getName().equals(name)
                    && method.getParameterCount() == arguments.length) {
                try {
                    Object got = method.invoke(x, arguments);
                    return method.getReturnType() == void.class ? "nothing" : got;
                } catch (InvocationTargetException e) {
                    return e.getCause().getClass().getSimpleName();
                }
            }
        }
        return "no such method";
    }

    private static void compareTable(List<String> lines) {
        Set<String> told = new TreeSet<>();
        for (String line : lines) {
            Matcher row = ROW.matcher(line);
            if (row.matches()) {
                String types = row.group(3).replaceAll("int \\w+", "int");
                List<String> thrown = new ArrayList<>();
                Matcher exception = EXCEPTION.matcher(row.group(4));
                while (exception.find()) {
                    thrown.add(exception.group());
                }
                told.add(row.group(1) + " " + row.group(2) + "(" + types + ") throws " + thrown);
            }
        }
        Set<String> due = new TreeSet<>();
        for (Method method : SweepEqual.class.getDeclaredMethods()) {
            if (isOfFace(method)) {
                due.add(method.getReturnType() + " " + method.getName()
                        + "(" + String.join(", ", names(method.getParameterTypes())) + ") throws "
                        + names(method.getExceptionTypes()));
            }
        }
        if (!told.equals(due)) {
            tell("the table of calls is " + told + ", due is " + due);
        }
    }

    private static List<String> names(Class<?>[] types) {
        List<String> names = new ArrayList<>();
        for (Class<?> type : types) {
            names.add(type.getSimpleName());
        }
        return names;
    }
}
