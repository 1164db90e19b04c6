import java.lang.reflect.Constructor;
import java.lang.reflect.Field;
import java.lang.reflect.Method;
import java.lang.reflect.Modifier;
import java.util.Arrays;
import java.util.TreeSet;

/** The public face: the document's members with their exceptions, and no other that can be seen. */
public final class FaceTest {
    private static final String[] DUE = {
        "NONE int",
        "WorstPaths(int, int, int)",
        "block(int) int IllegalArgumentException UnsupportedOperationException",
        "touch(int, int) int IndexOutOfBoundsException UnsupportedOperationException",
        "edge(int, int) int IndexOutOfBoundsException UnsupportedOperationException",
        "bound(int, int) int IndexOutOfBoundsException IllegalArgumentException",
        "pair(int, int) int IndexOutOfBoundsException IllegalArgumentException"
            + " UnsupportedOperationException",
        "worst() long UnsupportedOperationException",
        "best() long UnsupportedOperationException",
        "way(int, int) int UnsupportedOperationException IndexOutOfBoundsException",
        "touches(int, int) int IndexOutOfBoundsException",
        "age(int, int, int) int IndexOutOfBoundsException",
        "time(int, int) int IndexOutOfBoundsException",
        "count(int) int",
    };

    private static String names(Class<?>[] classes, String between) {
        StringBuilder text = new StringBuilder();
        for (Class<?> each : classes) {
            text.append(text.length() == 0 ? "" : between).append(each.getSimpleName());
        }
        return text.toString();
    }

    private static TreeSet<String> visible() {
        TreeSet<String> all = new TreeSet<>();
        for (Field field : WorstPaths.class.getDeclaredFields()) {
            if (!Modifier.isPrivate(field.getModifiers())) {
                all.add(field.getName() + " " + field.getType());
            }
        }
        for (Constructor<?> made : WorstPaths.class.getDeclaredConstructors()) {
            all.add("WorstPaths(" + names(made.getParameterTypes(), ", ") + ")");
        }
        for (Method method : WorstPaths.class.getDeclaredMethods()) {
            if (!Modifier.isPrivate(method.getModifiers())) {
                all.add((method.getName() + "(" + names(method.getParameterTypes(), ", ") + ") "
                        + method.getReturnType() + " " + names(method.getExceptionTypes(), " ")).trim());
            }
        }
        return all;
    }

    public static void main(String[] args) {
        Checks c = new Checks();
        c.same("the face", visible(), new TreeSet<>(Arrays.asList(DUE)));
        c.same("final", Modifier.isFinal(WorstPaths.class.getModifiers()), true);
        TreeSet<String> faceNames = new TreeSet<>();
        for (Method method : WorstPaths.class.getMethods()) {
            faceNames.add(method.getName());
        }
        for (Method method : WorstPaths.class.getDeclaredMethods()) {
            boolean twice = Modifier.isPrivate(method.getModifiers()) && faceNames.contains(method.getName());
            c.same("private " + method.getName() + " has a public name", twice, false);
        }
        for (Class<?> inside : WorstPaths.class.getDeclaredClasses()) {
            c.same(inside + " is static", Modifier.isStatic(inside.getModifiers()), true);
        }
        c.end();
    }
}
