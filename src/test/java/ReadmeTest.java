import java.io.IOException;
import java.lang.reflect.Method;
import java.lang.reflect.Modifier;
import java.nio.file.Files;
import java.nio.file.Path;
import java.util.Arrays;
import java.util.List;
import java.util.Map;
import java.util.TreeMap;
import java.util.regex.Matcher;
import java.util.regex.Pattern;

/** README.md tells the class as it is: its examples answer what stands behind them, its tables have every call. */
public final class ReadmeTest {
    private static final Pattern MADE = Pattern.compile("ShoreFields shore = new ShoreFields\\(\\);.*");
    private static final Pattern EXAMPLE = Pattern.compile("shore\\.(\\w+)\\(([^)]*)\\); +// ([^:]+): .+");
    private static final Pattern ROW = Pattern.compile("\\| `(\\w+)\\(([^)]*)\\)` \\| (.+) \\| (.+) \\|");
    private static final Pattern REFUSAL = Pattern.compile("`(\\w+)`: .+");
    /** These take every call, as they have no argument that could be wrong. */
    private static final List<String> NEVER_REFUSED = List.of("fits", "works");

    private static int wrong = 0;

    private static void due(String what, boolean holds) {
        if (!holds) {
            wrong++;
            System.out.println(what);
        }
    }

    private static int number(String answer) {
        switch (answer) {
            case "true": return 1;
            case "false": return 0;
            case "NONE": return ShoreFields.NONE;
            case "NoSuchElementException": return Runs.THROWN;
            default: return Integer.parseInt(answer);
        }
    }

    private static int[] numbers(String arguments) {
        return Arrays.stream(arguments.split(",")).map(String::trim).filter(one -> !one.isEmpty())
            .mapToInt(Integer::parseInt).toArray();
    }

    private static int argumentCount(String arguments) {
        return arguments.isEmpty() ? 0 : arguments.split(",").length;
    }

    private static void checkExamples(List<String> lines) {
        Map<String, Integer> shown = new TreeMap<>();
        boolean inside = false;
        ShoreFields shore = null;
        for (String line : lines) {
            if (line.startsWith("```")) {
                inside = line.equals("```java");
            } else if (inside && MADE.matcher(line).matches()) {
                shore = new ShoreFields();
            } else if (inside && !line.isEmpty()) {
                Matcher example = EXAMPLE.matcher(line);
                due("no example: " + line, example.matches());
                if (example.matches()) {
                    int got = Runs.answer(shore, example.group(1), numbers(example.group(2)));
                    due(line + "\n    answered " + got, got == number(example.group(3)));
                    shown.merge(example.group(1), 1, Integer::sum);
                }
            }
        }
        for (Method call : face()) {
            due("no example of " + call.getName(), shown.containsKey(call.getName()));
        }
    }

    private static void checkTables(List<String> lines) {
        Map<String, Matcher> rows = new TreeMap<>();
        for (String line : lines) {
            Matcher row = ROW.matcher(line);
            if (row.matches()) {
                due("told twice: " + row.group(1), rows.put(row.group(1), row) == null);
            }
        }
        for (Method call : face()) {
            Matcher row = rows.remove(call.getName());
            due("no row of " + call.getName(), row != null);
            if (row != null) {
                checkRow(call, row);
            }
        }
        due("rows of no call: " + rows.keySet(), rows.isEmpty());
    }

    private static void checkRow(Method call, Matcher row) {
        String name = call.getName();
        int arguments = argumentCount(row.group(2));
        due(name + " has other arguments", arguments == call.getParameterCount());
        boolean answersTrue = row.group(3).contains("`true`");
        due(name + " has another answer", answersTrue == (call.getReturnType() == boolean.class));
        if (NEVER_REFUSED.contains(name)) {
            due(name + " is never refused", row.group(4).equals("Never."));
            return;
        }
        Matcher refusal = REFUSAL.matcher(row.group(4));
        due(name + " has no answer when it is refused", refusal.matches());
        if (refusal.matches() && arguments == call.getParameterCount()) {
            int[] none = new int[arguments];
            Arrays.fill(none, Integer.MIN_VALUE);
            int got = Runs.answer(new ShoreFields(), name, none);
            due(name + " refused answers " + got, got == number(refusal.group(1)));
        }
    }

    private static List<Method> face() {
        return Arrays.stream(ShoreFields.class.getDeclaredMethods())
            .filter(method -> Modifier.isPublic(method.getModifiers())).toList();
    }

    public static void main(String[] args) throws IOException {
        List<String> lines = Files.readAllLines(Path.of("README.md"));
        checkExamples(lines);
        checkTables(lines);
        System.out.println(wrong == 0 ? "README.md tells the class as it is" : wrong + " faults in README.md");
        if (wrong != 0) {
            System.exit(1);
        }
    }
}
