import java.lang.reflect.Constructor;
import java.lang.reflect.Field;
import java.lang.reflect.Method;
import java.lang.reflect.Modifier;
import java.util.ArrayList;
import java.util.Arrays;
import java.util.List;
import java.util.TreeSet;

/** The public face of the document, whole and with nothing more. */
public final class FaceTest {
    private static final String N = " java.util.NoSuchElementException";
    private static final String A = " java.lang.IllegalArgumentException";
    private static final String S = " java.lang.IllegalStateException";

    private static final List<String> FACE = List.of(
            "int place(1)" + N + S,
            "int shape(3)" + N + A + S,
            "int corner(3)" + N + A + S,
            "boolean close(1)" + N,
            "boolean unsure(2)" + N,
            "int force(2)" + N + A,
            "int inside(4)" + N + A,
            "int threeWay(4)" + N + A,
            "int area(2)" + N + A,
            "int misfit(2)" + N + A,
            "int distance(3)" + N + A,
            "void name(4)" + N + A + S,
            "int nameOn(2)" + N + A,
            "int mark(4)" + A + S,
            "int placed(3)" + N + A + S,
            "int masked(4)" + N + A);

    public static void main(String[] args) throws Exception {
        int modifiers = BorderDays.class.getModifiers();
        Check.due("the class is public and final", true,
                () -> Modifier.isPublic(modifiers) && Modifier.isFinal(modifiers));
        Check.due("NONE", -1, () -> BorderDays.NONE);
        Check.due("the fields", "[public static final int NONE]", () -> openFields());
        Check.due("the constructors", "[public BorderDays()]", () -> openConstructors());
        Check.due("the methods", new TreeSet<>(FACE), () -> openMethods());
        Check.end("FaceTest");
    }

    private static boolean isOpen(int modifiers, boolean synthetic) {
        return !Modifier.isPrivate(modifiers) && !synthetic;
    }

    private static List<String> openFields() {
        List<String> found = new ArrayList<>();
        for (Field f : BorderDays.class.getDeclaredFields()) {
            if (isOpen(f.getModifiers(), f.isSynthetic())) {
                found.add(Modifier.toString(f.getModifiers()) + " " + f.getType().getName() + " " + f.getName());
            }
        }
        return found;
    }

    private static List<String> openConstructors() {
        List<String> found = new ArrayList<>();
        for (Constructor<?> c : BorderDays.class.getDeclaredConstructors()) {
            if (isOpen(c.getModifiers(), c.isSynthetic())) {
                found.add(c.toString());
            }
        }
        return found;
    }

    private static TreeSet<String> openMethods() {
        TreeSet<String> found = new TreeSet<>();
        for (Method m : BorderDays.class.getDeclaredMethods()) {
            if (isOpen(m.getModifiers(), m.isSynthetic())) {
                found.add(told(m));
            }
        }
        return found;
    }

    private static String told(Method m) {
        boolean instance = !Modifier.isStatic(m.getModifiers()) && Modifier.isPublic(m.getModifiers());
        boolean ints = Arrays.stream(m.getParameterTypes()).allMatch(type -> type == int.class);
        StringBuilder text = new StringBuilder(instance && ints ? "" : "not of the face: ");
        text.append(m.getReturnType().getName()).append(' ').append(m.getName());
        text.append('(').append(m.getParameterCount()).append(')');
        for (Class<?> thrown : m.getExceptionTypes()) {
            text.append(' ').append(thrown.getName());
        }
        return text.toString();
    }
}
