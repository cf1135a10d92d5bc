import java.lang.reflect.Field;
import java.lang.reflect.Method;
import java.lang.reflect.Modifier;
import java.util.Arrays;
import java.util.List;
import java.util.Set;
import java.util.TreeSet;

/** The public face of the document, and rules 1 and 5 of LANGUAGE.md as far as the classes show them. */
public final class FaceTest {
    private static final String[] FACE = {
        "int cell(int, int, int, int, int) throws IllegalArgumentException, IndexOutOfBoundsException",
        "boolean link(int, int, int, boolean) throws IndexOutOfBoundsException",
        "int coil(int, int, int, int) throws IllegalArgumentException, IndexOutOfBoundsException",
        "int block(int, int, int, int, int, double) throws IllegalArgumentException, IndexOutOfBoundsException",
        "boolean guard(int, boolean) throws IndexOutOfBoundsException",
        "boolean input(int, boolean) throws IndexOutOfBoundsException",
        "double set(int, double) throws IllegalArgumentException, IndexOutOfBoundsException",
        "int scan(int) throws IllegalArgumentException, IllegalStateException, ArithmeticException",
        "int resume()",
        "boolean bit(int) throws IndexOutOfBoundsException",
        "double register(int) throws IndexOutOfBoundsException",
        "boolean power(int, int, int) throws IndexOutOfBoundsException",
        "int told(int, int) throws IllegalArgumentException, IndexOutOfBoundsException",
        "int count(int) throws IllegalArgumentException",
    };

    public static void main(String[] args) {
        Check check = new Check();
        check.same("public and final", ScanForge.class.getModifiers(), Modifier.PUBLIC | Modifier.FINAL);
        check.same("constructors", ScanForge.class.getDeclaredConstructors().length, 1);
        check.same("public constructors", ScanForge.class.getConstructors().length, 1);
        methodsAreThoseOfTheFace(check);
        nothingElseIsSeen(check);
        classesInsideAreHidden(check);
        check.end("FaceTest");
    }

    private static String face(Method m) {
        StringBuilder s = new StringBuilder();
        s.append(m.getReturnType().getSimpleName()).append(' ').append(m.getName()).append('(');
        s.append(names(m.getParameterTypes())).append(')');
        if (m.getExceptionTypes().length > 0) {
            s.append(" throws ").append(names(m.getExceptionTypes()));
        }
        return s.toString();
    }

    private static String names(Class<?>[] types) {
        List<String> names = Arrays.stream(types).map(Class::getSimpleName).toList();
        return String.join(", ", names);
    }

    private static void methodsAreThoseOfTheFace(Check check) {
        Set<String> due = new TreeSet<>(Arrays.asList(FACE));
        Set<String> names = new TreeSet<>();
        for (Method m : ScanForge.class.getDeclaredMethods()) {
            if (Modifier.isPublic(m.getModifiers())) {
                names.add(m.getName());
                if (!due.remove(face(m))) {
                    check.tell("not in the face: " + face(m));
                }
            }
        }
        for (String missing : due) {
            check.tell("missing: " + missing);
        }
        for (Method m : ScanForge.class.getDeclaredMethods()) {
            if (!Modifier.isPublic(m.getModifiers()) && names.contains(m.getName())) {
                check.tell("a private method bears the name of a public one: " + m.getName());
            }
        }
        for (Class<?> inside : ScanForge.class.getDeclaredClasses()) {
            for (Method m : inside.getDeclaredMethods()) {
                if (names.contains(m.getName())) {
                    check.tell("a method inside bears the name of a public one: " + m.getName());
                }
            }
        }
    }

    private static void nothingElseIsSeen(Check check) {
        for (Method m : ScanForge.class.getDeclaredMethods()) {
            int how = m.getModifiers();
            check.same(m.getName() + " is public or private", Modifier.isPublic(how) || Modifier.isPrivate(how), true);
        }
        for (Field f : ScanForge.class.getDeclaredFields()) {
            check.same(f.getName() + " is private", Modifier.isPrivate(f.getModifiers()), true);
            staticsAreConstants(check, f);
        }
    }

    private static void classesInsideAreHidden(Check check) {
        for (Class<?> inside : ScanForge.class.getDeclaredClasses()) {
            int how = inside.getModifiers();
            check.same(inside + " is static", Modifier.isStatic(how), true);
            check.same(inside + " is not seen", Modifier.isPublic(how) || Modifier.isProtected(how), false);
            for (Field f : inside.getDeclaredFields()) {
                staticsAreConstants(check, f);
            }
        }
    }

    private static void staticsAreConstants(Check check, Field f) {
        if (Modifier.isStatic(f.getModifiers())) {
            check.same(f.getName() + " is final", Modifier.isFinal(f.getModifiers()), true);
            check.same(f.getName() + " is int or long", f.getType() == int.class || f.getType() == long.class, true);
        }
    }
}
