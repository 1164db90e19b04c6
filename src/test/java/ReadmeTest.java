import java.io.IOException;
import java.lang.reflect.InvocationTargetException;
import java.lang.reflect.Method;
import java.lang.reflect.Modifier;
import java.nio.file.Files;
import java.nio.file.Path;
import java.util.Arrays;
import java.util.List;
import java.util.TreeSet;
import java.util.regex.Matcher;
import java.util.regex.Pattern;

/** The example of README.md, read from where the test is run: each call has the answer told there. */
public final class ReadmeTest {
    private static final Pattern MADE = Pattern.compile("WorstPaths x = new WorstPaths\\((.*)\\); //.*");
    private static final Pattern CALL = Pattern.compile("x\\.(\\w+)\\((.*)\\); *// (-?\\d+)\\b.*");

    public static void main(String[] args) throws IOException, ReflectiveOperationException {
        Checks c = new Checks();
        List<String> lines = Files.readAllLines(Path.of("README.md"));
        int begin = lines.indexOf("```java") + 1;
        TreeSet<String> shown = new TreeSet<>();
        WorstPaths x = null;
        for (int i = begin; i < lines.size() && !lines.get(i).equals("```"); i++) {
            Matcher made = MADE.matcher(lines.get(i));
            Matcher call = CALL.matcher(lines.get(i));
            if (made.matches()) {
                Integer[] told = numbers(made.group(1));
                x = new WorstPaths(told[0], told[1], told[2]);
            } else if (call.matches()) {
                shown.add(call.group(1));
                c.same(lines.get(i), answer(x, call.group(1), numbers(call.group(2))), call.group(3));
            } else {
                c.same("line " + (i + 1), lines.get(i), "a call with its answer behind it");
            }
        }
        TreeSet<String> all = new TreeSet<>();
        for (Method method : WorstPaths.class.getDeclaredMethods()) {
            if (Modifier.isPublic(method.getModifiers())) {
                all.add(method.getName());
            }
        }
        c.same("the methods that are shown", shown, all);
        c.end();
    }

    private static Integer[] numbers(String text) {
        if (text.isEmpty()) {
            return new Integer[0];
        }
        String[] parts = text.split(", ");
        Integer[] all = new Integer[parts.length];
        for (int i = 0; i < parts.length; i++) {
            all[i] = Integer.valueOf(parts[i]);
        }
        return all;
    }

    private static Object answer(WorstPaths x, String name, Integer[] told)
            throws ReflectiveOperationException {
        Class<?>[] types = new Class<?>[told.length];
        Arrays.fill(types, int.class);
        try {
            return WorstPaths.class.getMethod(name, types).invoke(x, (Object[]) told);
        } catch (InvocationTargetException thrown) {
            return thrown.getCause();
        }
    }
}
