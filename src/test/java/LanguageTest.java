import java.io.IOException;
import java.lang.reflect.Field;
import java.lang.reflect.Method;
import java.lang.reflect.Modifier;
import java.nio.file.Files;
import java.nio.file.Path;
import java.util.ArrayList;
import java.util.List;
import java.util.Set;
import java.util.TreeSet;
import java.util.regex.Matcher;
import java.util.regex.Pattern;

/**
 * The rules of LANGUAGE.md that can be seen from the program's text and its classes. Some are looked at more
 * narrowly than they are written, as the program needs less than they allow; who needs more widens the test.
 */
public final class LanguageTest {
    private static final String METHOD_START = "( {4}| {8})[A-Za-z].*\\) (throws [A-Za-z, ]+ )?\\{";

    public static void main(String[] args) throws IOException {
        String text = Files.readString(Path.of("src/main/java/DebateSolver.java"));
        String code = withoutComments(text);
        signs(text);
        classes();
        members();
        words(code);
        library(code);
        exceptions(code);
        indices(code);
        loops(code);
        objects(code);
        methods(code.split("\n"));
        Check.end("LanguageTest");
    }

    private static String withoutComments(String text) {
        return text.replaceAll("(?s)/\\*.*?\\*/", "").replaceAll("//[^\n]*", "");
    }

    private static List<Class<?>> allClasses() {
        List<Class<?>> all = new ArrayList<>(List.of(DebateSolver.class.getDeclaredClasses()));
        all.add(DebateSolver.class);
        return all;
    }

    /** Rule 4: signs 1 to 127. */
    private static void signs(String text) {
        Check.isTrue("signs 1 to 127", text.chars().allMatch(sign -> sign >= 1 && sign <= 127));
    }

    /** Rules 1, 2 and 11: the classes, how they are shown and how many there are. */
    private static void classes() {
        Check.same("package", "", DebateSolver.class.getPackageName());
        Check.isTrue("some twelve classes", allClasses().size() <= 12);
        for (Class<?> inside : DebateSolver.class.getDeclaredClasses()) {
            int shown = inside.getModifiers();
            Check.isTrue(inside + " is static", Modifier.isStatic(shown));
            Check.isFalse(inside + " is public or protected", Modifier.isPublic(shown) || Modifier.isProtected(shown));
            Check.same("classes inside " + inside, 0, inside.getDeclaredClasses().length);
        }
    }

    /** Rules 1, 5 and 11: the fields, and the names and parameters of methods. */
    private static void members() {
        Set<String> face = new TreeSet<>();
        for (Method method : DebateSolver.class.getMethods()) {
            face.add(method.getName());
        }
        for (Class<?> one : allClasses()) {
            int ownFields = 0;
            for (Field field : one.getDeclaredFields()) {
                boolean isStatic = Modifier.isStatic(field.getModifiers());
                ownFields += isStatic ? 0 : 1;
                boolean isConstant = Modifier.isFinal(field.getModifiers()) && field.getType() == int.class;
                Check.isTrue(field + " is no constant", !isStatic || isConstant);
            }
            Check.isTrue(one + " has some twenty fields", ownFields <= 20);
            for (Method method : one.getDeclaredMethods()) {
                Check.isTrue(method + " has at most seven parameters", method.getParameterCount() <= 7);
                boolean isHidden = !Modifier.isPublic(method.getModifiers());
                Check.isFalse(method + " has a public one's name", isHidden && face.contains(method.getName()));
            }
        }
    }

    /** Rules 2, 4, 6, 8 and 13: words and signs that have no place in the program. */
    private static void words(String code) {
        for (String word : List.of("package", "import", "synchronized", "assert", "finally", "try", "catch", "native",
                "volatile", "transient", "var", "goto", "this\\(", "super", "extends", "->", "::", "@", "float",
                "NaN", "hashCode", "equals", "System", "Math", "Thread", "Random", "\" *\\+", "\\+ *\"")) {
            String whole = word.matches("[a-z]+") ? "\\b" + word + "\\b" : word;
            Check.isFalse("the program has " + word, Pattern.compile(whole).matcher(code).find());
        }
    }

    /** Rule 4: what is called by the name of a class. */
    private static void library(String code) {
        Check.same("library", "[Integer.bitCount]", found("\\b([A-Z][A-Za-z]+\\.\\w+)", code).toString());
    }

    /** Rule 6: what is thrown, and by which words; never in a constructor. */
    private static void exceptions(String code) {
        int due = count("\\bthrow\\b", code);
        String all = "throw new (IllegalStateException|IllegalArgumentException|IndexOutOfBoundsException)"
                + "\\(\"[^\"]+\"\\);";
        Check.same("throws of the written form", due, count(all, code));
        Matcher constructor = Pattern.compile("(?s)\n( +)(public )?[A-Z]\\w+\\(\\) \\{(.*?)\n\\1\\}").matcher(code);
        int constructors = 0;
        while (constructor.find()) {
            constructors++;
            Check.isFalse("a constructor throws", constructor.group(3).contains("throw"));
        }
        Check.same("constructors", allClasses().size(), constructors);
    }

    /** Rule 7: rows are looked into by "at" and "store" alone, which test the index; just one line divides. */
    private static void indices(String code) {
        Set<String> places = found("(\\w+\\[[^\\]]+\\])", code.replaceAll("new int\\[[A-Z_]+\\]", ""));
        Check.same("rows that are looked into", "[row[index]]", places.toString());
        Check.same("places that do", 2, count("row\\[index\\]", code));
        Check.isTrue("at tests", code.contains("index >= 0 && index < row.length ? row[index] : 0"));
        Check.isTrue("store tests",
                code.contains("if (index >= 0 && index < row.length) {\n            row[index] = number;"));
        Check.same("divisions", 1, count("[/%]", code.replaceAll("\"[^\"]*\"", "")));
        Check.isTrue("the divisor is tested", code.contains("list.size() == 0 ? 0.0 : (double) having / list.size()"));
        Check.same("casts", "[(double) having]", found("(\\((?:int|long|double|char|byte|short|[A-Z]\\w*)\\) ?\\w+)",
                code).toString());
    }

    /** Rule 9: each loop counts up or down to a bound. */
    private static void loops(String code) {
        Check.same("while", 0, count("\\bwhile\\b", code));
        String counted = "for \\(int (\\w+) = [^;]+; \\1 (<|<=|>=) [^;]+; \\1(\\+\\+|--)\\) \\{";
        Check.same("loops that count", count("\\bfor\\b", code), count(counted, code));
    }

    /** Rule 12: all rows and objects are made as an object is; later just what is thrown. */
    private static void objects(String code) {
        String later = code.replaceAll("(?s)\n( +)(public )?[A-Z]\\w+\\(\\) \\{(.*?)\n\\1\\}", "");
        Check.same("made later", count("throw new", later), count("\\bnew\\b", later));
    }

    /** Rule 11: methods of some sixty lines. */
    private static void methods(String[] lines) {
        int methods = 0;
        for (int start = 0; start < lines.length; start++) {
            if (lines[start].matches(METHOD_START)) {
                methods++;
                String end = lines[start].replaceAll("[^ ].*", "") + "}";
                int length = 1;
                while (start + length < lines.length && !lines[start + length].equals(end)) {
                    length++;
                }
                Check.isTrue("some sixty lines: " + lines[start].trim(), length <= 60);
            }
        }
        Check.isTrue("methods are found", methods >= 50);
    }

    private static int count(String what, String code) {
        int count = 0;
        Matcher matcher = Pattern.compile(what).matcher(code);
        while (matcher.find()) {
            count++;
        }
        return count;
    }

    private static Set<String> found(String what, String code) {
        Set<String> found = new TreeSet<>();
        Matcher matcher = Pattern.compile(what).matcher(code);
        while (matcher.find()) {
            found.add(matcher.group(1));
        }
        return found;
    }
}
