import com.sun.source.tree.BinaryTree;
import com.sun.source.tree.ClassTree;
import com.sun.source.tree.CompilationUnitTree;
import com.sun.source.tree.ExpressionTree;
import com.sun.source.tree.LineMap;
import com.sun.source.tree.MethodInvocationTree;
import com.sun.source.tree.MethodTree;
import com.sun.source.tree.NewClassTree;
import com.sun.source.tree.ThrowTree;
import com.sun.source.tree.Tree;
import com.sun.source.util.JavacTask;
import com.sun.source.util.SourcePositions;
import com.sun.source.util.TreePath;
import com.sun.source.util.TreePathScanner;
import com.sun.source.util.Trees;
import java.nio.file.Path;
import java.util.ArrayDeque;
import java.util.Deque;
import java.util.HashMap;
import java.util.LinkedHashMap;
import java.util.LinkedHashSet;
import java.util.List;
import java.util.Map;
import java.util.Set;
import java.util.TreeSet;
import javax.lang.model.element.Element;
import javax.lang.model.element.ElementKind;
import javax.tools.JavaCompiler;
import javax.tools.StandardJavaFileManager;
import javax.tools.ToolProvider;

/** Those rules of LANGUAGE.md that the compiler's reading of the class tells: who calls whom. */
public final class LanguageTests extends TreePathScanner<Void, Void> {

    private static final Checks CHECKS = new Checks("language");

    /** What the class uses of the library; rule 4 would allow more. */
    private static final Set<String> LIBRARY = Set.of("Math.abs", "Math.max", "Math.min",
        "System.arraycopy", "Array.clone");

    /** The methods that divide by a variable, behind a look at it. */
    private static final Set<String> TESTED_DIVISORS = Set.of("State.onRamp", "ClimateChamber.mean");

    private final Trees trees;
    private final LineMap lines;
    private final SourcePositions positions;
    private final CompilationUnitTree unit;
    private final Map<String, Set<String>> calls = new LinkedHashMap<>();
    private final Set<String> library = new TreeSet<>();
    private final Map<String, Integer> depths = new HashMap<>();
    private final Deque<String> open = new ArrayDeque<>();

    private LanguageTests(Trees trees, CompilationUnitTree unit) {
        this.trees = trees;
        this.unit = unit;
        lines = unit.getLineMap();
        positions = trees.getSourcePositions();
    }

    public static void main(String[] args) throws Exception {
        JavaCompiler compiler = ToolProvider.getSystemJavaCompiler();
        StandardJavaFileManager files = compiler.getStandardFileManager(null, null, null);
        JavacTask task = (JavacTask) compiler.getTask(null, files, null, List.of("-proc:none"), null,
            files.getJavaFileObjects(Path.of("src/main/java/ClimateChamber.java")));
        CompilationUnitTree unit = task.parse().iterator().next();
        task.analyze();
        LanguageTests tests = new LanguageTests(Trees.instance(task), unit);
        tests.scan(unit, null);
        tests.look();
        CHECKS.finish();
    }

    private void look() {
        CHECKS.isTrue("methods were found", calls.size() > 80);
        CHECKS.isTrue("the library's calls were found", library.contains("System.arraycopy"));
        library.removeAll(LIBRARY);
        CHECKS.dueText("rule 4: other library than the class needs", "[]", library.toString());
        for (String method : calls.keySet()) {
            int depth = depth(method);
            CHECKS.isTrue("rule 11: " + method + " goes " + depth + " calls deep", depth <= 8);
        }
    }

    /** The methods that are open at once at most, the library's too. */
    private int depth(String method) {
        CHECKS.isTrue("rule 8: no recursion in " + open + " " + method, !open.contains(method));
        if (depths.containsKey(method) || open.contains(method)) {
            return depths.getOrDefault(method, 0);
        }
        open.addLast(method);
        int deepest = 0;
        for (String called : calls.getOrDefault(method, Set.of())) {
            deepest = Math.max(deepest, depth(called));
        }
        open.removeLast();
        depths.put(method, deepest + 1);
        return deepest + 1;
    }

    private static String nameOf(Element method) {
        return method.getEnclosingElement().getSimpleName() + "."
            + (method.getKind() == ElementKind.CONSTRUCTOR ? "new" : method.getSimpleName());
    }

    /** What stands outside the methods is done by the constructor. */
    private String caller() {
        for (TreePath path = getCurrentPath(); path != null; path = path.getParentPath()) {
            Tree tree = path.getLeaf();
            if (tree instanceof MethodTree) {
                return nameOf(trees.getElement(path));
            }
            if (tree instanceof ClassTree) {
                return ((ClassTree) tree).getSimpleName() + ".new";
            }
        }
        return "";
    }

    private void addCall(Element called) {
        String name = nameOf(called);
        calls.computeIfAbsent(caller(), key -> new LinkedHashSet<>()).add(name);
        TreePath path = trees.getPath(called);
        if (path == null || path.getCompilationUnit() != unit) {
            library.add(name);
        }
    }

    @Override
    public Void visitMethod(MethodTree method, Void none) {
        String name = nameOf(trees.getElement(getCurrentPath()));
        CHECKS.isTrue("one method " + name + " alone in its class", calls.get(name) == null
            || name.endsWith(".new"));
        calls.computeIfAbsent(name, key -> new LinkedHashSet<>());
        long first = lines.getLineNumber(positions.getStartPosition(unit, method));
        long last = lines.getLineNumber(Math.max(positions.getStartPosition(unit, method),
            positions.getEndPosition(unit, method)));
        CHECKS.isTrue("rule 11: lines of " + name, last - first < 60);
        return super.visitMethod(method, none);
    }

    @Override
    public Void visitMethodInvocation(MethodInvocationTree call, Void none) {
        ExpressionTree called = call.getMethodSelect();
        if (!called.toString().equals("super")) {
            addCall(trees.getElement(new TreePath(getCurrentPath(), called)));
        }
        return super.visitMethodInvocation(call, none);
    }

    @Override
    public Void visitNewClass(NewClassTree made, Void none) {
        if (!(getCurrentPath().getParentPath().getLeaf() instanceof ThrowTree)) {
            addCall(trees.getElement(getCurrentPath()));
        }
        return super.visitNewClass(made, none);
    }

    @Override
    public Void visitThrow(ThrowTree thrown, Void none) {
        CHECKS.isTrue("rule 6: no throw in " + caller(), !caller().endsWith(".new"));
        return super.visitThrow(thrown, none);
    }

    @Override
    public Void visitBinary(BinaryTree binary, Void none) {
        if (binary.getKind() == Tree.Kind.DIVIDE || binary.getKind() == Tree.Kind.REMAINDER) {
            String divisor = binary.getRightOperand().toString();
            CHECKS.isTrue("rule 7: the divisor " + divisor + " in " + caller(),
                divisor.matches("[1-9]\\d*") || TESTED_DIVISORS.contains(caller()));
        }
        return super.visitBinary(binary, none);
    }
}
