import java.io.IOException;
import java.lang.reflect.Constructor;
import java.lang.reflect.Field;
import java.lang.reflect.Method;
import java.lang.reflect.Modifier;
import java.nio.file.Files;
import java.util.Arrays;
import java.util.Set;
import java.util.TreeSet;

/** The document's public face, and rule 1 of LANGUAGE.md: that face and no more. */
public final class FaceTest {
    private static final Class<?> LOOM = GrammarLoom.class;

    public static void main(String[] args) throws IOException, IllegalAccessException {
        Set<String> due = dueFace(Files.readString(DocumentTest.DOCUMENT));
        Set<String> face = face();
        for (String line : due) {
            Check.due("the class has: " + line, true, face.contains(line));
        }
        for (String line : face) {
            Check.due("the document has: " + line, true, due.contains(line));
        }
        methodNames();
        classesInside();
        Check.end();
    }

    /** The lines of the document's face, without the names of parameters. */
    private static Set<String> dueFace(String document) {
        int from = document.indexOf("```java");
        int to = document.indexOf("```", from + 1);
        Check.due("the document has a face", true, from >= 0 && to > from);
        Set<String> lines = new TreeSet<>();
        for (String line : document.substring(from, to).split("\n")) {
            if (line.contains("public ")) {
                lines.add(line.trim().replaceAll("(\\w+) \\w+(?=[,)])", "$1"));
            }
        }
        Check.due("lines of the face", 19, lines.size());
        return lines;
    }

    /** What is not private in the class, as the document writes it. */
    private static Set<String> face() throws IllegalAccessException {
        Set<String> lines = new TreeSet<>();
        lines.add(Modifier.toString(LOOM.getModifiers()) + " class " + LOOM.getName() + " {");
        for (Field field : LOOM.getDeclaredFields()) {
            if (!Modifier.isPrivate(field.getModifiers())) {
                Object value = Modifier.isStatic(field.getModifiers()) ? field.get(null) : "";
                lines.add(visible(field.getModifiers()) + field.getType() + " " + field.getName() + " = " + value + ";");
            }
        }
        for (Constructor<?> made : LOOM.getDeclaredConstructors()) {
            lines.add(visible(made.getModifiers()) + made.getName() + parameters(made.getParameterTypes()));
        }
        for (Method method : LOOM.getDeclaredMethods()) {
            if (!Modifier.isPrivate(method.getModifiers())) {
                lines.add(visible(method.getModifiers()) + method.getReturnType() + " " + method.getName()
                        + parameters(method.getParameterTypes()));
            }
        }
        return lines;
    }

    private static String visible(int modifiers) {
        return modifiers == 0 ? "" : Modifier.toString(modifiers) + " ";
    }

    private static String parameters(Class<?>... types) {
        return Arrays.toString(types).replace("[", "(").replace("]", ");");
    }

    private static void methodNames() {
        Set<String> names = new TreeSet<>();
        for (Method method : LOOM.getMethods()) {
            names.add(method.getName());
        }
        for (Method method : LOOM.getDeclaredMethods()) {
            if (Modifier.isPrivate(method.getModifiers())) {
                dueOtherName(method, names);
            }
        }
        for (Class<?> inside : LOOM.getDeclaredClasses()) {
            for (Method method : inside.getDeclaredMethods()) {
                dueOtherName(method, names);
            }
        }
    }

    private static void dueOtherName(Method method, Set<String> names) {
        Check.due("its name is a public one's: " + method, false, names.contains(method.getName()));
    }

    private static void classesInside() {
        for (Class<?> inside : LOOM.getDeclaredClasses()) {
            int modifiers = inside.getModifiers();
            Check.due("static: " + inside, true, Modifier.isStatic(modifiers));
            Check.due("open: " + inside, false, Modifier.isPublic(modifiers) || Modifier.isProtected(modifiers));
        }
    }
}
