import java.io.IOException;
import java.lang.reflect.InvocationTargetException;
import java.lang.reflect.Method;
import java.lang.reflect.Modifier;
import java.nio.file.Files;
import java.nio.file.Path;
import java.util.ArrayList;
import java.util.List;
import java.util.TreeSet;
import java.util.regex.Matcher;
import java.util.regex.Pattern;

/** Makes the calls of README.md's example, so that what it says there stays true. */
public final class ReadmeTest {
    private static final Pattern CALL =
            Pattern.compile("unit\\.(\\w+)\\((.*)\\); +// (true|false|nothing|-?\\d+)(:.*)?");
    private static final String FIRST = "CapUnit unit = new CapUnit();";

    private final Check check = new Check();
    private final CapUnit unit = new CapUnit();
    private final TreeSet<String> shown = new TreeSet<>();

    public static void main(String[] args) throws IOException {
        ReadmeTest test = new ReadmeTest();
        List<String> lines = example();
        test.check.same("the example begins with a new object", lines.get(0).equals(FIRST), true);
        for (String line : lines.subList(1, lines.size())) {
            if (!line.isBlank() && !line.startsWith("//")) {
                test.look(line);
            }
        }
        for (Method method : CapUnit.class.getDeclaredMethods()) {
            if (!Modifier.isPrivate(method.getModifiers())) {
                test.check.same("the example shows " + method.getName(), test.shown.contains(method.getName()), true);
            }
        }
        test.check.end();
    }

    private static List<String> example() throws IOException {
        List<String> lines = Files.readAllLines(Path.of("README.md"));
        int from = lines.indexOf("```java") + 1;
        List<String> rest = lines.subList(from, lines.size());
        return new ArrayList<>(rest.subList(0, rest.indexOf("```")));
    }

    private void look(String line) {
        Matcher call = CALL.matcher(line);
        boolean read = call.matches();
        check.same("README has a call and its answer: " + line, read, true);
        if (read) {
            shown.add(call.group(1));
            String got = answer(call.group(1), call.group(2));
            check.same("README is right (the answer is " + got + "): " + line, got.equals(call.group(3)), true);
        }
    }

    private String answer(String name, String arguments) {
        for (Method method : CapUnit.class.getMethods()) {
            if (method.getName().equals(name)) {
                try {
                    Object answer = method.invoke(unit, read(arguments, method.getParameterTypes()));
                    return answer == null ? "nothing" : answer.toString();
                } catch (InvocationTargetException e) {
                    return e.getCause().toString();
                } catch (IllegalAccessException | IllegalArgumentException e) {
                    return e.toString();
                }
            }
        }
        return "no such call";
    }

    private static Object[] read(String arguments, Class<?>[] types) {
        String[] words = arguments.isEmpty() ? new String[0] : arguments.split(", ");
        Object[] values = new Object[words.length];
        for (int i = 0; i < words.length && i < types.length; i++) {
            if (types[i] == boolean.class) {
                values[i] = Boolean.valueOf(words[i]);
            } else if (types[i] == long.class) {
                values[i] = Long.valueOf(words[i].replace("L", ""));
            } else {
                values[i] = Integer.valueOf(words[i]);
            }
        }
        return values;
    }
}
