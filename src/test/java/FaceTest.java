import java.lang.reflect.Constructor;
import java.lang.reflect.Field;
import java.lang.reflect.Method;
import java.lang.reflect.Modifier;
import java.util.Arrays;
import java.util.Set;
import java.util.TreeSet;
import java.util.stream.Collectors;

/** The class shows the document's face and nothing else, and holds no static state. */
public final class FaceTest {
    private static final Set<String> FACE = new TreeSet<>(Set.of(
            "void begin(int) IllegalArgumentException",
            "int ask(int,int) IndexOutOfBoundsException,IllegalArgumentException",
            "int keep(int) IllegalArgumentException,IllegalStateException",
            "void recall(int) IndexOutOfBoundsException",
            "int band(int) IllegalArgumentException",
            "int distance(int) IndexOutOfBoundsException",
            "int bound(int,int) IndexOutOfBoundsException,IllegalArgumentException",
            "int steps(int) IndexOutOfBoundsException",
            "int pair(int,int) IndexOutOfBoundsException",
            "int search(int) IllegalArgumentException,IllegalStateException",
            "int found(int,boolean) IndexOutOfBoundsException",
            "int guess(int) IllegalArgumentException,IllegalStateException",
            "int count(int) IllegalArgumentException",
            "int push(int) IllegalArgumentException,IllegalStateException",
            "int scan(int) IllegalArgumentException,IllegalStateException",
            "void shift(int) IllegalArgumentException"));

    public static void main(String[] args) {
        Check check = new Check();
        Class<?> face = WarpSearch.class;
        check.same("modifiers", Modifier.toString(face.getModifiers()), "public final");
        check.same("methods", shownMethods(face), FACE);
        check.same("fields", shownFields(face), Set.of("public static final int NONE"));
        check.same("NONE", WarpSearch.NONE, -1);
        constructors(check, face);
        privateNames(check, face);
        staticState(check, face);
        for (Class<?> inside : face.getDeclaredClasses()) {
            boolean hidden = !Modifier.isPublic(inside.getModifiers()) && !Modifier.isProtected(inside.getModifiers());
            check.same(inside + " is hidden", hidden, true);
            staticState(check, inside);
        }
        check.finish();
    }

    private static Set<String> shownMethods(Class<?> face) {
        return Arrays.stream(face.getDeclaredMethods())
                .filter(m -> !Modifier.isPrivate(m.getModifiers()) && !m.isSynthetic())
                .map(FaceTest::text)
                .collect(Collectors.toCollection(TreeSet::new));
    }

    private static String text(Method m) {
        return m.getReturnType() + " " + m.getName() + "(" + names(m.getParameterTypes()) + ") "
                + names(m.getExceptionTypes());
    }

    private static String names(Class<?>[] types) {
        return Arrays.stream(types).map(Class::getSimpleName).collect(Collectors.joining(","));
    }

    private static Set<String> shownFields(Class<?> face) {
        return Arrays.stream(face.getDeclaredFields())
                .filter(f -> !Modifier.isPrivate(f.getModifiers()) && !f.isSynthetic())
                .map(f -> Modifier.toString(f.getModifiers()) + " " + f.getType() + " " + f.getName())
                .collect(Collectors.toSet());
    }

    private static void constructors(Check check, Class<?> face) {
        Constructor<?>[] all = face.getDeclaredConstructors();
        check.same("constructors", all.length, 1);
        check.same("constructor is public", Modifier.isPublic(all[0].getModifiers()), true);
        check.same("constructor's parameters", all[0].getParameterCount(), 0);
    }

    private static void privateNames(Check check, Class<?> face) {
        Set<String> shown = FACE.stream()
                .map(t -> t.substring(t.indexOf(' ') + 1, t.indexOf('('))).collect(Collectors.toSet());
        for (Method m : face.getDeclaredMethods()) {
            if (Modifier.isPrivate(m.getModifiers())) {
                check.same("private " + m.getName() + " bears a public name", shown.contains(m.getName()), false);
            }
        }
    }

    private static void staticState(Check check, Class<?> of) {
        for (Field f : of.getDeclaredFields()) {
            if (Modifier.isStatic(f.getModifiers())) {
                check.same("static " + f.getName() + " is final", Modifier.isFinal(f.getModifiers()), true);
            }
        }
    }
}
