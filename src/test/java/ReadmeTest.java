import java.io.File;
import java.io.IOException;
import java.lang.reflect.Method;
import java.lang.reflect.Modifier;
import java.nio.file.Files;
import java.nio.file.Path;
import java.util.Set;
import java.util.TreeSet;
import java.util.regex.Matcher;
import java.util.regex.Pattern;

/** README.md shows every call of the class, and those of its example answer what stands behind them. */
public final class ReadmeTest {
    private static final Pattern CALL = Pattern.compile("loom\\.(\\w+)\\(([^)]*)\\); +// ([^: ]+)(: .*)?");

    private static final GrammarLoom LOOM = new GrammarLoom();

    public static void main(String[] args) throws IOException, ReflectiveOperationException {
        String readme = Files.readString(Path.of("README.md"));
        Set<String> shown = answers(example(readme));
        for (Method method : GrammarLoom.class.getDeclaredMethods()) {
            if (Modifier.isPublic(method.getModifiers())) {
                String name = method.getName();
                Check.due("the example calls " + name, true, shown.contains(name));
                Check.due("the table tells of " + name, true, readme.contains("\n| `" + name + "("));
            }
        }
        for (String file : new File("src/test/java").list()) {
            String name = file.replace(".java", "");
            Check.due("README.md tells of " + name, true, readme.contains(name));
        }
        Check.end();
    }

    /** The names of the calls. */
    private static Set<String> answers(String example) throws ReflectiveOperationException {
        Set<String> names = new TreeSet<>();
        for (String line : example.split("\n")) {
            if (line.startsWith("loom.")) {
                names.add(dueAnswer(line));
            }
        }
        return names;
    }

    private static String example(String readme) {
        int from = readme.indexOf("```java");
        int to = readme.indexOf("```", from + 1);
        Check.due("README.md has an example", true, from >= 0 && to > from);
        return from >= 0 && to > from ? readme.substring(from, to) : "";
    }

    /** The name of the call. */
    private static String dueAnswer(String line) throws ReflectiveOperationException {
        Matcher parts = CALL.matcher(line);
        boolean answered = parts.matches();
        Check.due("an answer stands behind " + line, true, answered);
        if (!answered) {
            return "";
        }
        Object got = call(parts.group(1), parts.group(2));
        Check.due(line + " answered " + got, true, parts.group(3).equals(String.valueOf(got)));
        return parts.group(1);
    }

    private static Object call(String name, String told) throws ReflectiveOperationException {
        String[] arguments = told.isEmpty() ? new String[0] : told.split(", ");
        for (Method method : GrammarLoom.class.getMethods()) {
            Class<?>[] types = method.getParameterTypes();
            if (method.getName().equals(name) && types.length == arguments.length) {
                Object[] values = new Object[types.length];
                for (int i = 0; i < types.length; i++) {
                    long value = Long.parseLong(arguments[i]);
                    values[i] = types[i] == long.class ? (Object) value : (Object) (int) value;
                }
                return method.invoke(LOOM, values);
            }
        }
        return "no such call";
    }
}
