import java.io.IOException;
import java.lang.reflect.InvocationTargetException;
import java.lang.reflect.Method;
import java.lang.reflect.Modifier;
import java.nio.file.Files;
import java.nio.file.Path;
import java.util.ArrayList;
import java.util.HashMap;
import java.util.List;
import java.util.Map;
import java.util.regex.Matcher;
import java.util.regex.Pattern;
import java.util.stream.Stream;

/** README.md tells the truth: its example is played, and its tables and lists are complete. */
public final class ReadmeTest {
    private static final Pattern CALL = Pattern.compile(
            "(?:int (\\w+) = )?debate\\.(\\w+)\\(([^)]*)\\);(?:\\s+// (throws \\w+|[^ :]+): .+)?");
    /** The call's parameters, some words about its answer, and its exceptions. */
    private static final Pattern ROW = Pattern.compile("\\| `\\w+ \\w+\\(([\\w ,]*)\\)` \\| [^|]{10,} \\|([^|]*)\\|");
    private static final String[] KINDS = {
        "COMPLETE", "GROUNDED", "PREFERRED", "STABLE", "STAGE", "SEMISTABLE", "IDEAL"
    };
    private static final String[] LABELS = {"UNDECIDED", "IN", "OUT", "BOTH"};

    public static void main(String[] args) throws IOException {
        List<String> lines = Files.readAllLines(Path.of("README.md"));
        playExample(lines);
        namesKindsAndLabels(lines);
        namesEachCall(lines);
        namesEachTest(lines);
        Check.end("ReadmeTest");
    }

    private static void playExample(List<String> lines) {
        int start = lines.indexOf("```java");
        int end = lines.indexOf("```");
        boolean isThere = start >= 0 && end > start + 1;
        Check.isTrue("there is an example", isThere);
        if (!isThere) {
            return;
        }
        Check.same("the example makes an object", "DebateSolver debate = new DebateSolver();", lines.get(start + 1));
        DebateSolver debate = new DebateSolver();
        Map<String, Integer> names = new HashMap<>();
        int told = 0;
        for (String line : lines.subList(start + 2, end)) {
            Matcher call = CALL.matcher(line);
            boolean isCall = call.matches();
            Check.isTrue("a call, or an empty line: " + line, isCall || line.isEmpty());
            if (isCall) {
                String answer = answer(debate, call.group(2), call.group(3), names);
                if (call.group(1) != null) {
                    names.put(call.group(1), Integer.valueOf(answer));
                }
                if (call.group(4) != null) {
                    Check.same("the example's line " + line, call.group(4), answer);
                    told++;
                }
            }
        }
        Check.isTrue("the example tells answers", told >= 10);
    }

    private static String answer(DebateSolver debate, String name, String given, Map<String, Integer> names) {
        for (Method method : DebateSolver.class.getMethods()) {
            if (method.getName().equals(name)) {
                try {
                    return String.valueOf(method.invoke(debate, values(given, names)));
                } catch (InvocationTargetException e) {
                    return "throws " + e.getCause().getClass().getSimpleName();
                } catch (IllegalAccessException e) {
                    return "no access";
                }
            }
        }
        return "no such call";
    }

    private static Object[] values(String given, Map<String, Integer> names) {
        List<Object> values = new ArrayList<>();
        for (String word : given.isEmpty() ? new String[0] : given.split(", ")) {
            if (word.equals("true") || word.equals("false")) {
                values.add(Boolean.valueOf(word));
            } else {
                values.add(names.containsKey(word) ? names.get(word) : Integer.valueOf(word));
            }
        }
        return values.toArray();
    }

    private static void namesKindsAndLabels(List<String> lines) {
        for (int kind = 0; kind < KINDS.length; kind++) {
            Check.same("rows for kind " + kind, 1, rows(lines, "| " + kind + " | " + KINDS[kind] + " | ").size());
        }
        for (int label = 0; label < LABELS.length; label++) {
            Check.same("rows for label " + label, 1, rows(lines, "| " + label + " | " + LABELS[label] + " | ").size());
        }
    }

    /** Each call has a row with its types, with some words about the answer, and with its exceptions in order. */
    private static void namesEachCall(List<String> lines) {
        int calls = 0;
        for (Method method : DebateSolver.class.getDeclaredMethods()) {
            if (Modifier.isPublic(method.getModifiers())) {
                calls++;
                String start = "| `" + method.getReturnType().getSimpleName() + " " + method.getName() + "(";
                List<String> found = rows(lines, start);
                Check.same("rows for " + method.getName(), 1, found.size());
                for (String row : found) {
                    compareRow(method, row);
                }
            }
        }
        int rows = 0;
        for (String line : lines) {
            rows += line.startsWith("| `") ? 1 : 0;
        }
        Check.same("rows of calls", calls, rows);
    }

    private static void compareRow(Method method, String row) {
        Matcher cells = ROW.matcher(row);
        boolean isRow = cells.matches();
        Check.isTrue("a row of three cells: " + row, isRow);
        if (isRow) {
            String types = cells.group(1).replaceAll("(\\w+) \\w+", "$1");
            Check.same("parameters of " + method.getName(), names(method.getParameterTypes()), types);
            String thrown = cells.group(2).replace("`", "").trim();
            Check.same("exceptions of " + method.getName(), names(method.getExceptionTypes()), thrown);
        }
    }

    private static String names(Class<?>[] types) {
        List<String> names = new ArrayList<>();
        for (Class<?> type : types) {
            names.add(type.getSimpleName());
        }
        return String.join(", ", names);
    }

    private static void namesEachTest(List<String> lines) throws IOException {
        String whole = String.join("\n", lines);
        int tests = 0;
        try (Stream<Path> files = Files.list(Path.of("src/test/java"))) {
            for (Path file : (Iterable<Path>) files::iterator) {
                String name = file.getFileName().toString().replace(".java", "");
                if (name.endsWith("Test")) {
                    tests++;
                    Check.isTrue("README.md names " + name, whole.contains("`" + name + "`"));
                }
            }
        }
        Check.isTrue("there are tests", tests > 0);
        Check.isTrue("README.md says how to run them", lines.contains("    .ci/run"));
    }

    private static List<String> rows(List<String> lines, String start) {
        List<String> rows = new ArrayList<>();
        for (String line : lines) {
            if (line.startsWith(start)) {
                rows.add(line);
            }
        }
        return rows;
    }
}
