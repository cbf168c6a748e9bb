import java.io.IOException;
import java.lang.reflect.Constructor;
import java.lang.reflect.Executable;
import java.lang.reflect.Field;
import java.lang.reflect.Method;
import java.lang.reflect.Modifier;
import java.util.ArrayList;
import java.util.Arrays;
import java.util.Collection;
import java.util.List;
import java.util.TreeSet;
import java.util.stream.Collectors;

/** The public face of the document, whole and with nothing more. */
public final class FaceTest {
    private static final String N = "NoSuchElementException";
    private static final String A = "IllegalArgumentException";
    private static final String S = "IllegalStateException";

    private static final List<String> FACE = List.of(
            "BorderDays()",
            "int place(int) throws " + N + ", " + S,
            "int shape(int, int, int) throws " + N + ", " + A + ", " + S,
            "int corner(int, int, int) throws " + N + ", " + A + ", " + S,
            "boolean close(int) throws " + N,
            "boolean unsure(int, int) throws " + N,
            "int force(int, int) throws " + N + ", " + A,
            "int inside(int, int, int, int) throws " + N + ", " + A,
            "int threeWay(int, int, int, int) throws " + N + ", " + A,
            "int area(int, int) throws " + N + ", " + A,
            "int misfit(int, int) throws " + N + ", " + A,
            "int distance(int, int, int) throws " + N + ", " + A,
            "void name(int, int, int, int) throws " + N + ", " + A + ", " + S,
            "int nameOn(int, int) throws " + N + ", " + A,
            "int mark(int, int, int, int) throws " + A + ", " + S,
            "int placed(int, int, int) throws " + N + ", " + A + ", " + S,
            "int masked(int, int, int, int) throws " + N + ", " + A);

    public static void main(String[] args) throws IOException {
        List<String> written = Face.entries().stream().map(Face.Entry::signature).toList();
        Check.due("the document's face", sorted(FACE), () -> sorted(written));
        Check.due("the document's constants", "[static final int NONE = -1]", () -> constants());
        Check.due("the class", "public final", () -> Modifier.toString(BorderDays.class.getModifiers()));
        Check.due("what it extends", Object.class, BorderDays.class::getSuperclass);
        Check.due("what it implements", "[]", () -> Arrays.toString(BorderDays.class.getInterfaces()));
        Check.due("NONE", -1, () -> BorderDays.NONE);
        Check.due("the fields", "[public static final int NONE]", () -> openFields());
        Check.due("the constructor and methods", sorted(written), () -> sorted(openMembers()));
        Check.due("the classes inside", "private static, or package-visible and static", () -> classesInside());
        Check.due("private methods with a public one's name", "[]", () -> privateMethodsNamedAsPublic());
        Check.end("FaceTest");
    }

    private static TreeSet<String> sorted(Collection<String> texts) {
        return new TreeSet<>(texts);
    }

    private static List<String> constants() {
        try {
            return Face.constants();
        } catch (IOException e) {
            throw new IllegalStateException(e);
        }
    }

    private static boolean isOpen(int modifiers, boolean synthetic) {
        return !Modifier.isPrivate(modifiers) && !synthetic;
    }

    private static List<String> openFields() {
        List<String> found = new ArrayList<>();
        for (Field f : BorderDays.class.getDeclaredFields()) {
            if (isOpen(f.getModifiers(), f.isSynthetic())) {
                found.add(Modifier.toString(f.getModifiers()) + " " + f.getType().getName() + " " + f.getName());
            }
        }
        return found;
    }

    private static List<String> openMembers() {
        List<String> found = new ArrayList<>();
        for (Constructor<?> c : BorderDays.class.getDeclaredConstructors()) {
            if (isOpen(c.getModifiers(), c.isSynthetic())) {
                found.add(told(c, ""));
            }
        }
        for (Method m : BorderDays.class.getDeclaredMethods()) {
            if (isOpen(m.getModifiers(), m.isSynthetic())) {
                found.add(told(m, m.getReturnType().getName() + " "));
            }
        }
        return found;
    }

    /** Written as the document's members are; one that is not simply public has its modifiers before it. */
    private static String told(Executable e, String answer) {
        String modifiers = Modifier.toString(e.getModifiers());
        String thrown = names(e.getExceptionTypes());
        return (modifiers.equals("public") ? "" : "[" + modifiers + "] ") + answer + e.getName()
                + "(" + names(e.getParameterTypes()) + ")" + (thrown.isEmpty() ? "" : " throws " + thrown);
    }

    private static String names(Class<?>[] types) {
        return Arrays.stream(types).map(Class::getSimpleName).collect(Collectors.joining(", "));
    }

    private static String classesInside() {
        for (Class<?> inside : BorderDays.class.getDeclaredClasses()) {
            int modifiers = inside.getModifiers();
            if (Modifier.isPublic(modifiers) || Modifier.isProtected(modifiers) || !Modifier.isStatic(modifiers)) {
                return Modifier.toString(modifiers) + " " + inside.getSimpleName();
            }
        }
        return "private static, or package-visible and static";
    }

    private static List<String> privateMethodsNamedAsPublic() {
        List<String> found = new ArrayList<>();
        for (Method m : BorderDays.class.getDeclaredMethods()) {
            boolean named = FACE.stream().anyMatch(member -> member.contains(" " + m.getName() + "("));
            if (named && Modifier.isPrivate(m.getModifiers())) {
                found.add(m.getName());
            }
        }
        return found;
    }
}
