import java.io.IOException;
import java.lang.reflect.InvocationTargetException;
import java.lang.reflect.Method;
import java.lang.reflect.Modifier;
import java.nio.file.Files;
import java.nio.file.Path;
import java.util.HashMap;
import java.util.Map;
import java.util.TreeSet;
import java.util.regex.Matcher;
import java.util.regex.Pattern;

/** Runs what README.md shows, line by line on one object, and looks whether each call answers as it says. */
public final class CamslideReadmeTest extends Check {
    private static final String MAKING = "Camslide works = new Camslide();";
    private static final Pattern CALL = Pattern.compile(
            "(?:int (\\w+) = )?works\\.(\\w+)\\((.*?)\\); +// (throws )?([-\\w.]+)(?:: .*)?");

    private static final Map<String, Object> names = new HashMap<>();
    private static final TreeSet<String> shown = new TreeSet<>();
    private static Camslide works;

    public static void main(String[] args) throws IOException {
        boolean isCode = false;
        for (String line : Files.readAllLines(Path.of("README.md"))) {
            if (line.startsWith("```")) {
                isCode = line.equals("```java");
            } else if (isCode) {
                run(line);
            }
        }
        showsEachCall();
        close();
    }

    private static void run(String line) {
        Matcher call = CALL.matcher(line);
        if (line.equals(MAKING)) {
            works = new Camslide();
        } else if (call.matches()) {
            String due = call.group(4) == null ? call.group(5) : "throws " + call.group(5);
            Object got = answer(call.group(2), call.group(3).isEmpty() ? new String[0] : call.group(3).split(", "));
            is(0, line, due, () -> String.valueOf(got));
            if (call.group(1) != null) {
                names.put(call.group(1), got);
            }
            shown.add(call.group(2));
        } else {
            is(0, line, "a call with its answer", () -> "another line");
        }
    }

    private static Object answer(String name, String[] told) {
        for (Method method : Camslide.class.getMethods()) {
            if (method.getName().equals(name) && method.getParameterCount() == told.length) {
                return answer(method, told);
            }
        }
        return "no such call";
    }

    private static Object answer(Method method, String[] told) {
        Object[] values = new Object[told.length];
        for (int i = 0; i < told.length; i++) {
            values[i] = value(told[i]);
        }
        try {
            return method.invoke(works, values);
        } catch (InvocationTargetException e) {
            return "throws " + e.getCause().getClass().getSimpleName();
        } catch (IllegalAccessException e) {
            return "no public call";
        }
    }

    private static Object value(String told) {
        if (told.startsWith("'")) {
            return told.charAt(1);
        }
        if (told.equals("true") || told.equals("false")) {
            return told.equals("true");
        }
        return names.containsKey(told) ? names.get(told) : Integer.valueOf(told);
    }

    private static void showsEachCall() {
        TreeSet<String> due = new TreeSet<>();
        for (Method method : Camslide.class.getDeclaredMethods()) {
            if (Modifier.isPublic(method.getModifiers())) {
                due.add(method.getName());
            }
        }
        is(0, "the calls that README.md shows", due, () -> shown);
    }
}
