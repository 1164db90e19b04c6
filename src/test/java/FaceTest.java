import java.lang.reflect.Constructor;
import java.lang.reflect.Field;
import java.lang.reflect.Method;
import java.lang.reflect.Modifier;
import java.util.Arrays;
import java.util.TreeSet;

/** The public face: the document's members with their exceptions, and no other that can be seen. */
public final class FaceTest {
    private static final String[] DUE = {
        "public static final NONE int",
        "public WorstPaths(int, int, int)",
        "public block(int) int IllegalArgumentException UnsupportedOperationException",
        "public touch(int, int) int IndexOutOfBoundsException UnsupportedOperationException",
        "public edge(int, int) int IndexOutOfBoundsException UnsupportedOperationException",
        "public bound(int, int) int IndexOutOfBoundsException IllegalArgumentException",
        "public pair(int, int) int IndexOutOfBoundsException IllegalArgumentException"
            + " UnsupportedOperationException",
        "public worst() long UnsupportedOperationException",
        "public best() long UnsupportedOperationException",
        "public way(int, int) int UnsupportedOperationException IndexOutOfBoundsException",
        "public touches(int, int) int IndexOutOfBoundsException",
        "public age(int, int, int) int IndexOutOfBoundsException",
        "public time(int, int) int IndexOutOfBoundsException",
        "public count(int) int",
    };

    private static String names(Class<?>[] classes, String between) {
        StringBuilder text = new StringBuilder();
        for (Class<?> each : classes) {
            text.append(text.length() == 0 ? "" : between).append(each.getSimpleName());
        }
        return text.toString();
    }

    private static TreeSet<String> visible() {
        TreeSet<String> all = new TreeSet<>();
        for (Field field : WorstPaths.class.getDeclaredFields()) {
            if (!Modifier.isPrivate(field.getModifiers())) {
                all.add(Modifier.toString(field.getModifiers()) + " " + field.getName() + " " + field.getType());
            }
        }
        for (Constructor<?> made : WorstPaths.class.getDeclaredConstructors()) {
            all.add(Modifier.toString(made.getModifiers()) + " WorstPaths("
                    + names(made.getParameterTypes(), ", ") + ")");
        }
        for (Method method : WorstPaths.class.getDeclaredMethods()) {
            if (!Modifier.isPrivate(method.getModifiers())) {
                all.add((Modifier.toString(method.getModifiers()) + " " + method.getName()
                        + "(" + names(method.getParameterTypes(), ", ") + ") "
                        + method.getReturnType() + " " + names(method.getExceptionTypes(), " ")).trim());
            }
        }
        return all;
    }

    public static void main(String[] args) {
        Checks c = new Checks();
        c.same("the face", visible(), new TreeSet<>(Arrays.asList(DUE)));
        c.same("the class", Modifier.toString(WorstPaths.class.getModifiers()), "public final");
        TreeSet<String> faceNames = new TreeSet<>();
        for (Method method : WorstPaths.class.getMethods()) {
            faceNames.add(method.getName());
        }
        noPublicNames(c, WorstPaths.class, faceNames);
        for (Class<?> inside : WorstPaths.class.getDeclaredClasses()) {
            c.same(inside + " is static", Modifier.isStatic(inside.getModifiers()), true);
            noPublicNames(c, inside, faceNames);
        }
        c.end();
    }

    private static void noPublicNames(Checks c, Class<?> of, TreeSet<String> faceNames) {
        for (Method method : of.getDeclaredMethods()) {
            boolean twice = Modifier.isPrivate(method.getModifiers()) && faceNames.contains(method.getName());
            c.same("private " + method.getName() + " has a public name", twice, false);
        }
    }
}
