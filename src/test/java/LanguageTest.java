import com.sun.source.tree.BlockTree;
import com.sun.source.tree.ClassTree;
import com.sun.source.tree.CompilationUnitTree;
import com.sun.source.tree.ImportTree;
import com.sun.source.tree.LineMap;
import com.sun.source.tree.MethodInvocationTree;
import com.sun.source.tree.MethodTree;
import com.sun.source.tree.NewArrayTree;
import com.sun.source.tree.NewClassTree;
import com.sun.source.tree.Tree;
import com.sun.source.tree.VariableTree;
import com.sun.source.util.JavacTask;
import com.sun.source.util.SourcePositions;
import com.sun.source.util.TreePathScanner;
import com.sun.source.util.Trees;
import java.io.IOException;
import java.nio.file.Path;
import java.util.ArrayList;
import java.util.EnumSet;
import java.util.LinkedHashSet;
import java.util.List;
import java.util.Map;
import java.util.Set;
import java.util.TreeMap;
import javax.lang.model.element.Element;
import javax.lang.model.element.ElementKind;
import javax.lang.model.element.Modifier;
import javax.lang.model.element.VariableElement;
import javax.tools.JavaCompiler;
import javax.tools.StandardJavaFileManager;
import javax.tools.ToolProvider;

/** The rules of ../shared/LANGUAGE.md that can be seen in the source; FaceTest has rule 1. */
public final class LanguageTest extends TreePathScanner<Void, Void> {
    private static final Path SOURCE = Path.of("src", "main", "java", "GrammarLoom.java");
    private static final int MOST_DEPTH = 8;
    private static final int MOST_PARAMETERS = 7;
    private static final int MOST_LINES = 60;
    private static final int MOST_CLASSES = 12;
    private static final int MOST_FIELDS = 20;

    /** What the class uses of rules 3 and 4; the rules would leave more. */
    private static final Set<String> LIBRARY = Set.of("java.util.Arrays.fill", "java.lang.System.arraycopy",
            "java.lang.Math.min", "java.lang.Math.max", "java.lang.Object.<init>");
    private static final Set<String> TYPES = Set.of("int", "long", "boolean", "int[]", "long[]");

    /** Forms that rules 2 and 6 forbid, and those of exceptions, which the document has none of. */
    private static final Set<Tree.Kind> NEVER = EnumSet.of(Tree.Kind.LAMBDA_EXPRESSION,
            Tree.Kind.MEMBER_REFERENCE, Tree.Kind.THROW, Tree.Kind.TRY, Tree.Kind.ASSERT,
            Tree.Kind.SYNCHRONIZED, Tree.Kind.INSTANCE_OF, Tree.Kind.TYPE_CAST);

    private final CompilationUnitTree unit;
    private final Trees trees;
    private final Map<String, Set<String>> calls = new TreeMap<>();
    private String method;
    private int classes;

    private LanguageTest(CompilationUnitTree unit, Trees trees) {
        this.unit = unit;
        this.trees = trees;
    }

    public static void main(String[] args) throws IOException {
        JavaCompiler compiler = ToolProvider.getSystemJavaCompiler();
        try (StandardJavaFileManager files = compiler.getStandardFileManager(null, null, null)) {
            JavacTask task = (JavacTask) compiler.getTask(null, files, null, null, null,
                    files.getJavaFileObjects(SOURCE));
            CompilationUnitTree unit = task.parse().iterator().next();
            task.analyze();
            LanguageTest test = new LanguageTest(unit, Trees.instance(task));
            test.scan(unit, null);
            test.dueDepths();
        }
        Check.end();
    }

    private static String nameOf(Element element) {
        return element.getEnclosingElement() + "." + element.getSimpleName();
    }

    private static boolean isOwn(String name) {
        return name.equals("GrammarLoom") || name.startsWith("GrammarLoom.");
    }

    @Override
    public Void scan(Tree tree, Void nothing) {
        if (tree != null && NEVER.contains(tree.getKind())) {
            Check.fault("rules 2 and 6: " + tree.getKind() + " in " + tree);
        }
        return super.scan(tree, nothing);
    }

    @Override
    public Void visitImport(ImportTree tree, Void nothing) {
        Check.due("rule 4: " + tree, true, tree.getQualifiedIdentifier().toString().equals("java.util.Arrays"));
        return super.visitImport(tree, nothing);
    }

    @Override
    public Void visitClass(ClassTree tree, Void nothing) {
        classes++;
        int fields = 0;
        for (Tree member : tree.getMembers()) {
            boolean field = member instanceof VariableTree;
            if (field && !((VariableTree) member).getModifiers().getFlags().contains(Modifier.STATIC)) {
                fields++;
            }
            Check.due("rule 5: a static block in " + tree.getSimpleName(), false, member instanceof BlockTree);
        }
        Check.due("rule 11: classes up to " + tree.getSimpleName(), true, classes <= MOST_CLASSES);
        Check.due("rule 11: fields of " + tree.getSimpleName(), true, fields <= MOST_FIELDS);
        return super.visitClass(tree, nothing);
    }

    @Override
    public Void visitMethod(MethodTree tree, Void nothing) {
        String outside = method;
        method = nameOf(trees.getElement(getCurrentPath()));
        calls.put(method, new LinkedHashSet<>());
        Check.due("rule 11: parameters of " + method, true, tree.getParameters().size() <= MOST_PARAMETERS);
        Check.due("rule 11: lines of " + method, true, lines(tree) <= MOST_LINES);
        super.visitMethod(tree, nothing);
        method = outside;
        return null;
    }

    private long lines(MethodTree tree) {
        SourcePositions places = trees.getSourcePositions();
        LineMap map = unit.getLineMap();
        long first = places.getStartPosition(unit, tree);
        long last = places.getEndPosition(unit, tree);
        // A constructor that is not written out has no place.
        return first < 0 || last < 0 ? 0 : map.getLineNumber(last) - map.getLineNumber(first) + 1;
    }

    @Override
    public Void visitVariable(VariableTree tree, Void nothing) {
        VariableElement variable = (VariableElement) trees.getElement(getCurrentPath());
        String type = variable.asType().toString();
        Check.due("rule 3: " + tree, true, TYPES.contains(type) || isOwn(type));
        if (variable.getKind() == ElementKind.FIELD && variable.getModifiers().contains(Modifier.STATIC)) {
            Check.due("rule 5: " + tree, true, variable.getConstantValue() != null);
        }
        return super.visitVariable(tree, nothing);
    }

    @Override
    public Void visitMethodInvocation(MethodInvocationTree tree, Void nothing) {
        called(trees.getElement(getCurrentPath()));
        return super.visitMethodInvocation(tree, nothing);
    }

    @Override
    public Void visitNewClass(NewClassTree tree, Void nothing) {
        called(trees.getElement(getCurrentPath()));
        dueInConstructor(tree);
        return super.visitNewClass(tree, nothing);
    }

    @Override
    public Void visitNewArray(NewArrayTree tree, Void nothing) {
        dueInConstructor(tree);
        return super.visitNewArray(tree, nothing);
    }

    /** Outside of methods stand the fields' first values, which are made with the object. */
    private void dueInConstructor(Tree tree) {
        Check.due("rule 12: made in " + method + ": " + tree, true, method == null || method.endsWith(".<init>"));
    }

    private void called(Element element) {
        String name = nameOf(element);
        if (!isOwn(name)) {
            Check.due("rule 4: " + name, true, LIBRARY.contains(name));
        }
        if (method != null) {
            calls.get(method).add(name);
        }
    }

    private void dueDepths() {
        Check.due("methods were read", true, calls.size() > 15);
        for (String each : calls.keySet()) {
            List<String> deepest = deepest(each, new ArrayList<>());
            Check.due("rule 11: " + deepest.size() + " calls deep: " + deepest, true, deepest.size() <= MOST_DEPTH);
        }
    }

    /** The longest chain of calls that begins with a method, the library's own one included. */
    private List<String> deepest(String each, List<String> open) {
        List<String> longest = new ArrayList<>();
        if (open.contains(each)) {
            Check.fault("rule 8: " + each + " calls itself by " + open);
            return longest;
        }
        open.add(each);
        for (String next : calls.getOrDefault(each, Set.of())) {
            List<String> chain = deepest(next, open);
            longest = chain.size() > longest.size() ? chain : longest;
        }
        open.remove(open.size() - 1);
        longest.add(0, each);
        return longest;
    }
}
