import java.lang.reflect.Constructor;
import java.lang.reflect.Field;
import java.lang.reflect.Method;
import java.lang.reflect.Modifier;
import java.util.ArrayList;
import java.util.List;

/** The class has the document's face, and shows nothing else. */
public final class FaceTest {
    private static final String[] FACE = {
        "int addArgument(int) IllegalArgumentException IllegalStateException",
        "int setWeight(int,int) IndexOutOfBoundsException IllegalArgumentException",
        "boolean put(int,boolean) IndexOutOfBoundsException",
        "boolean attack(int,int,boolean) IndexOutOfBoundsException",
        "int setTolerance(int) IllegalArgumentException",
        "int argumentCount()",
        "int debate()",
        "int attackers(int) IndexOutOfBoundsException",
        "int attacked(int) IndexOutOfBoundsException",
        "int attackCount()",
        "boolean isFree(int) IllegalArgumentException",
        "int defended(int) IllegalArgumentException",
        "boolean isAdmissible(int) IllegalArgumentException",
        "int label(int,int) IndexOutOfBoundsException IllegalArgumentException",
        "int repair(int) IllegalArgumentException",
        "int positions(int) IndexOutOfBoundsException",
        "int position(int,int) IndexOutOfBoundsException",
        "int accepted(int,boolean) IndexOutOfBoundsException",
        "int heaviest(int) IndexOutOfBoundsException",
        "double support(int) IndexOutOfBoundsException",
        "int round(int) IndexOutOfBoundsException",
        "int rounds()",
        "boolean wins(int) IndexOutOfBoundsException",
        "int silence(int) IndexOutOfBoundsException",
        "int tolerable(int) IndexOutOfBoundsException",
        "boolean leads(int,int) IndexOutOfBoundsException",
        "int even()",
        "int odd()",
        "long digest()",
    };

    public static void main(String[] args) {
        Check.isTrue("the class is public and final",
                DebateSolver.class.getModifiers() == (Modifier.PUBLIC | Modifier.FINAL));

        List<String> shown = new ArrayList<>();
        for (Method method : DebateSolver.class.getDeclaredMethods()) {
            if (!Modifier.isPrivate(method.getModifiers())) {
                Check.isTrue(method + " is just public", method.getModifiers() == Modifier.PUBLIC);
                shown.add(signature(method));
            }
        }
        for (String due : FACE) {
            Check.isTrue("the face has " + due, shown.remove(due));
        }
        Check.isTrue("the face has no more: " + shown, shown.isEmpty());

        Constructor<?>[] constructors = DebateSolver.class.getDeclaredConstructors();
        Check.same("constructors", 1, constructors.length);
        Check.isTrue("the constructor is public", Modifier.isPublic(constructors[0].getModifiers()));
        Check.same("parameters of the constructor", 0, constructors[0].getParameterCount());
        for (Field field : DebateSolver.class.getDeclaredFields()) {
            Check.isTrue(field + " is private", Modifier.isPrivate(field.getModifiers()));
        }
        Check.end("FaceTest");
    }

    private static String signature(Method method) {
        StringBuilder text = new StringBuilder();
        text.append(method.getReturnType().getSimpleName()).append(' ').append(method.getName()).append('(');
        String gap = "";
        for (Class<?> type : method.getParameterTypes()) {
            text.append(gap).append(type.getSimpleName());
            gap = ",";
        }
        text.append(')');
        for (Class<?> type : method.getExceptionTypes()) {
            text.append(' ').append(type.getSimpleName());
        }
        return text.toString();
    }
}
