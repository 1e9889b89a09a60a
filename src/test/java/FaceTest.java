import java.lang.reflect.Constructor;
import java.lang.reflect.Field;
import java.lang.reflect.Method;
import java.lang.reflect.Modifier;
import java.util.Arrays;
import java.util.Set;
import java.util.TreeSet;

/** The document's public face, and rule 1 of LANGUAGE.md: that face and no more. */
public final class FaceTest {
    private static final String[] METHODS = {
        "int symbol(int)", "int rule(int)", "boolean drop(int)", "int count(int)", "int about(int, int)",
        "int shortest(int)", "int shortestWith(int)", "boolean circle()", "long trees(int, int)",
        "long treesWith(int, int)", "int draw(int, int, long)", "int row(int)", "int leaf(int)",
        "int list(int)", "long number(int)",
    };

    public static void main(String[] args) {
        Check.due("NONE", -1, GrammarLoom.NONE);
        Check.due("TOO_MANY", -2, GrammarLoom.TOO_MANY);
        Check.due("a public final class", Modifier.PUBLIC | Modifier.FINAL, GrammarLoom.class.getModifiers());
        methods();
        constructors();
        fields();
        classesInside();
        Check.end();
    }

    private static String told(Method method) {
        String parameters = Arrays.toString(method.getParameterTypes()).replace("[", "(").replace("]", ")");
        return method.getReturnType() + " " + method.getName() + parameters;
    }

    private static void methods() {
        Set<String> left = new TreeSet<>(Arrays.asList(METHODS));
        Set<String> names = new TreeSet<>();
        for (String method : METHODS) {
            names.add(method.replaceAll("^\\w+ |\\(.*", ""));
        }
        for (Method method : GrammarLoom.class.getDeclaredMethods()) {
            if (left.remove(told(method))) {
                Check.due(told(method), Modifier.PUBLIC, method.getModifiers());
            } else {
                Check.due("private: " + told(method), true, Modifier.isPrivate(method.getModifiers()));
                Check.due("its name is a public one's: " + told(method), false, names.contains(method.getName()));
            }
        }
        Check.due("methods that are missing: " + left, 0, left.size());
        for (Class<?> inside : GrammarLoom.class.getDeclaredClasses()) {
            for (Method method : inside.getDeclaredMethods()) {
                Check.due("its name is a public one's: " + told(method), false, names.contains(method.getName()));
            }
        }
    }

    private static void constructors() {
        Constructor<?>[] all = GrammarLoom.class.getDeclaredConstructors();
        Check.due("constructors", 1, all.length);
        Check.due("a public one", Modifier.PUBLIC, all[0].getModifiers());
        Check.due("its parameters", 0, all[0].getParameterCount());
    }

    private static void fields() {
        int constants = Modifier.PUBLIC | Modifier.STATIC | Modifier.FINAL;
        for (Field field : GrammarLoom.class.getDeclaredFields()) {
            String name = field.getName();
            if (name.equals("NONE") || name.equals("TOO_MANY")) {
                Check.due(name, constants, field.getModifiers());
                Check.due(name + " is an int", true, field.getType() == int.class);
            } else {
                Check.due("private: " + name, true, Modifier.isPrivate(field.getModifiers()));
            }
            dueFinalIfStatic(field);
        }
    }

    private static void dueFinalIfStatic(Field field) {
        int modifiers = field.getModifiers();
        Check.due("final: " + field, true, !Modifier.isStatic(modifiers) || Modifier.isFinal(modifiers));
    }

    private static void classesInside() {
        for (Class<?> inside : GrammarLoom.class.getDeclaredClasses()) {
            int modifiers = inside.getModifiers();
            Check.due("static: " + inside, true, Modifier.isStatic(modifiers));
            Check.due("open: " + inside, false, Modifier.isPublic(modifiers) || Modifier.isProtected(modifiers));
            for (Field field : inside.getDeclaredFields()) {
                dueFinalIfStatic(field);
            }
        }
    }
}
