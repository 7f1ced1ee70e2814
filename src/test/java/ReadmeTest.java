import java.io.IOException;
import java.lang.reflect.InvocationTargetException;
import java.lang.reflect.Method;
import java.lang.reflect.Modifier;
import java.nio.file.Files;
import java.nio.file.Path;
import java.util.HashMap;
import java.util.Map;
import java.util.Set;
import java.util.TreeSet;
import java.util.regex.Matcher;
import java.util.regex.Pattern;

/** README.md shows calls, each with its answer behind two slashes: here each one is made, and held against its answer. */
public final class ReadmeTest extends Checks {
    private static final Pattern CALL = Pattern.compile("    (?:\\w+ (\\w+) = )?house\\.(\\w+)\\((.*)\\);\\s+// (.*)");

    private final Map<String, Method> methods = new HashMap<>();
    private final Map<String, Object> names = new HashMap<>();
    private final Set<String> left = new TreeSet<>();
    private Shrinkery house = new Shrinkery();

    private ReadmeTest() {
        for (Method m : Shrinkery.class.getDeclaredMethods()) {
            if (Modifier.isPublic(m.getModifiers())) {
                methods.put(m.getName(), m);
                left.add(m.getName());
            }
        }
    }

    public static void main(String[] args) throws IOException {
        ReadmeTest test = new ReadmeTest();
        about = "README.md";
        for (String line : Files.readAllLines(Path.of("README.md"))) {
            if (line.contains("new Shrinkery()")) {
                test.house = new Shrinkery();
            } else if (line.contains("house.")) {
                test.checkLine(line);
            }
        }
        for (String name : test.left) {
            tellWrong("no call of " + name);
        }
        end("the calls that README.md shows");
    }

    private void checkLine(String line) {
        checks++;
        Matcher call = CALL.matcher(line);
        if (!call.matches() || !methods.containsKey(call.group(2))) {
            tellWrong("not a call with its answer: " + line);
            return;
        }
        left.remove(call.group(2));
        String[] texts = call.group(3).isEmpty() ? new String[0] : call.group(3).split(", ");
        Object[] arguments = new Object[texts.length];
        for (int i = 0; i < texts.length; i++) {
            arguments[i] = argument(texts[i]);
        }
        Object got = answer(methods.get(call.group(2)), arguments);
        if (call.group(1) != null) {
            names.put(call.group(1), got);
        }
        String due = call.group(4).split("[:,;]? ")[0].replaceAll("[:,;]$", "");
        if (call.group(4).startsWith("throws ")) {
            due = call.group(4).split("[:,;]? ")[1];
        }
        if (!due.equals(got instanceof Character ? "'" + got + "'" : got.toString())) {
            tellWrong("answered " + got + ": " + line);
        }
    }

    private Object argument(String text) {
        if (names.containsKey(text)) {
            return names.get(text);
        }
        if (text.equals("true") || text.equals("false")) {
            return text.equals("true");
        }
        return text.startsWith("'") ? (Object) text.charAt(1) : (Object) Integer.parseInt(text);
    }

    private Object answer(Method method, Object[] arguments) {
        try {
            return method.invoke(house, arguments);
        } catch (InvocationTargetException e) {
            return e.getCause().getClass().getSimpleName();
        } catch (IllegalAccessException e) {
            return "no access";
        }
    }
}
