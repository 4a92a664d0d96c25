import com.sun.source.tree.ClassTree;
import com.sun.source.tree.CompilationUnitTree;
import com.sun.source.tree.MethodInvocationTree;
import com.sun.source.tree.MethodTree;
import com.sun.source.tree.NewArrayTree;
import com.sun.source.tree.NewClassTree;
import com.sun.source.util.JavacTask;
import com.sun.source.util.TreePathScanner;
import com.sun.source.util.Trees;
import java.io.IOException;
import java.nio.file.Path;
import java.util.LinkedHashMap;
import java.util.LinkedHashSet;
import java.util.List;
import java.util.Map;
import java.util.Set;
import javax.lang.model.element.Element;
import javax.lang.model.element.ExecutableElement;
import javax.lang.model.element.Modifier;
import javax.lang.model.element.TypeElement;
import javax.lang.model.util.Elements;
import javax.tools.JavaCompiler;
import javax.tools.StandardJavaFileManager;
import javax.tools.ToolProvider;

/** Who calls whom in the class, as the compiler sees it: rules 4, 8, 11 and 12 of LANGUAGE.md. */
public final class CallsTest extends TreePathScanner<Void, Void> {
    private static final Check CHECK = new Check("CallsTest");
    private static final int DEEPEST = 8;
    private static final Set<String> LIBRARY = Set.of("java.lang.String.length", "java.lang.String.charAt",
            "java.lang.Math.max", "java.lang.Math.min", "java.lang.Integer.bitCount", "java.lang.System.arraycopy",
            "java.lang.Object.<init>");

    private final Trees trees;
    private final Elements elements;
    private final Map<ExecutableElement, Set<ExecutableElement>> calls = new LinkedHashMap<>();
    private ExecutableElement caller = null;

    private CallsTest(JavacTask task) {
        trees = Trees.instance(task);
        elements = task.getElements();
    }

    public static void main(String[] args) throws IOException {
        Path source = Path.of(args[0], "src/main/java/ChosenBackAtNine.java");
        JavaCompiler compiler = ToolProvider.getSystemJavaCompiler();
        StandardJavaFileManager files = compiler.getStandardFileManager(null, null, null);
        JavacTask task = (JavacTask) compiler.getTask(null, files, null, List.of("-proc:none"), null,
                files.getJavaFileObjects(source));
        Iterable<? extends CompilationUnitTree> units = task.parse();
        task.analyze();
        CallsTest test = new CallsTest(task);
        for (CompilationUnitTree unit : units) {
            test.scan(unit, null);
        }
        test.judge();
        CHECK.end();
    }

    // ---- who calls whom

    @Override
    public Void visitClass(ClassTree tree, Void nothing) {
        ExecutableElement outside = caller;
        caller = null;
        super.visitClass(tree, nothing);
        caller = outside;
        return null;
    }

    @Override
    public Void visitMethod(MethodTree tree, Void nothing) {
        caller = (ExecutableElement) trees.getElement(getCurrentPath());
        calls.computeIfAbsent(caller, c -> new LinkedHashSet<>());
        super.visitMethod(tree, nothing);
        caller = null;
        return null;
    }

    @Override
    public Void visitMethodInvocation(MethodInvocationTree tree, Void nothing) {
        if (caller != null) {
            calls.get(caller).add((ExecutableElement) trees.getElement(getCurrentPath()));
        }
        return super.visitMethodInvocation(tree, nothing);
    }

    @Override
    public Void visitNewClass(NewClassTree tree, Void nothing) {
        madeByConstructorsAlone(tree.toString());
        return super.visitNewClass(tree, nothing);
    }

    @Override
    public Void visitNewArray(NewArrayTree tree, Void nothing) {
        madeByConstructorsAlone(tree.toString());
        return super.visitNewArray(tree, nothing);
    }

    // A run has room for so many objects alone: what is made once per object is never too much.
    private void madeByConstructorsAlone(String made) {
        boolean byMethod = caller != null && !caller.getSimpleName().contentEquals("<init>");
        CHECK.due(made + " made by a method", byMethod ? 1 : 0, 0);
    }

    // ---- the rules

    private void judge() {
        CHECK.due("methods were found", calls.size() > 38 ? 1 : 0, 1);
        int recursions = 0;
        for (Map.Entry<ExecutableElement, Set<ExecutableElement>> call : calls.entrySet()) {
            ExecutableElement method = call.getKey();
            for (ExecutableElement called : call.getValue()) {
                boolean own = calls.containsKey(called) || name(called).startsWith("ChosenBackAtNine");
                CHECK.due(name(method) + " calls " + name(called), own || LIBRARY.contains(name(called)) ? 1 : 0, 1);
            }
            if (call.getValue().contains(method)) {
                recursions++;
                recursionIsAsRule8HasIt(method);
            }
            int deep = depth(method, new LinkedHashSet<>());
            CHECK.due(name(method) + " goes eight deep at most", deep <= DEEPEST ? 1 : 0, 1);
        }
        CHECK.due("methods that call themselves", recursions, 1);
    }

    private void recursionIsAsRule8HasIt(ExecutableElement method) {
        Set<Modifier> modifiers = method.getModifiers();
        CHECK.due(name(method) + ", calling itself, is private", modifiers.contains(Modifier.PRIVATE) ? 1 : 0, 1);
        CHECK.due(name(method) + ", calling itself, is static", modifiers.contains(Modifier.STATIC) ? 1 : 0, 1);
        boolean guarded = method.getParameters().stream().anyMatch(p -> p.getSimpleName().contentEquals("depth"));
        CHECK.due(name(method) + ", calling itself, carries its depth", guarded ? 1 : 0, 1);
    }

    /** How deep calls go from here; a method's calls of itself are recursion and don't count. */
    private int depth(ExecutableElement method, Set<ExecutableElement> open) {
        int deepest = 0;
        open.add(method);
        for (ExecutableElement called : calls.getOrDefault(method, Set.of())) {
            boolean again = open.contains(called);
            CHECK.due(name(method) + " leads to itself by way of " + name(called),
                    again && called != method ? 1 : 0, 0);
            deepest = again ? deepest : Math.max(deepest, depth(called, open));
        }
        open.remove(method);
        return deepest + 1;
    }

    private String name(Element method) {
        return elements.getBinaryName((TypeElement) method.getEnclosingElement()) + "." + method.getSimpleName();
    }
}
