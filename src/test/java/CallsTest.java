import com.sun.source.tree.ClassTree;
import com.sun.source.tree.CompilationUnitTree;
import com.sun.source.tree.DoWhileLoopTree;
import com.sun.source.tree.ForLoopTree;
import com.sun.source.tree.MethodInvocationTree;
import com.sun.source.tree.MethodTree;
import com.sun.source.tree.NewClassTree;
import com.sun.source.tree.Tree;
import com.sun.source.tree.WhileLoopTree;
import com.sun.source.util.JavacTask;
import com.sun.source.util.TreePathScanner;
import com.sun.source.util.Trees;
import java.io.IOException;
import java.nio.file.Path;
import java.util.ArrayList;
import java.util.LinkedHashMap;
import java.util.LinkedHashSet;
import java.util.List;
import java.util.Map;
import java.util.Set;
import javax.lang.model.element.Element;
import javax.lang.model.element.ElementKind;
import javax.lang.model.element.ExecutableElement;
import javax.lang.model.element.TypeElement;
import javax.lang.model.element.VariableElement;
import javax.tools.JavaCompiler;
import javax.tools.StandardJavaFileManager;
import javax.tools.ToolProvider;

/**
 * Those rules of LANGUAGE.md that show by which method calls which: the library by the methods that
 * are really meant (4), recursion that carries its depth (8), loops with a condition (9), calls of few
 * levels, few parameters, short methods, few classes and fields (11).
 */
public final class CallsTest {
    private static final Set<String> LIBRARY = Set.of(
        "java.lang.System.arraycopy(java.lang.Object,int,java.lang.Object,int,int)", "java.lang.Integer.bitCount(int)",
        "java.lang.Math.min(int,int)", "java.lang.Math.max(int,int)", "java.lang.Math.abs(int)", "java.lang.Math.floorMod(int,int)",
        "java.util.NoSuchElementException.NoSuchElementException(java.lang.String)", "java.lang.Object.Object()");
    private static final int MOST_LEVELS = 8;
    private static final int MOST_PARAMETERS = 7;
    private static final int MOST_LINES = 60;
    private static final int MOST_CLASSES = 12;
    private static final int MOST_FIELDS = 20;

    private final Map<ExecutableElement, Set<ExecutableElement>> calls = new LinkedHashMap<>();
    private final Map<ExecutableElement, Integer> levels = new LinkedHashMap<>();

    public static void main(String[] args) throws IOException {
        JavaCompiler compiler = ToolProvider.getSystemJavaCompiler();
        Path file = Kit.root().resolve("src/main/java/WallChapels.java");
        try (StandardJavaFileManager files = compiler.getStandardFileManager(null, null, null)) {
            JavacTask task = (JavacTask) compiler.getTask(null, files, null, List.of("-proc:none"), null, files.getJavaFileObjects(file));
            CompilationUnitTree unit = task.parse().iterator().next();
            task.analyze();
            CallsTest test = new CallsTest();
            test.new Reader(Trees.instance(task)).scan(unit, null);
            test.judge();
        }
        Kit.close();
    }

    private void judge() {
        Kit.same("methods are found", calls.size() > 100, true);
        for (ExecutableElement method : calls.keySet()) {
            Kit.same("parameters of " + told(method), method.getParameters().size() <= MOST_PARAMETERS, true);
            if (isRecursive(method)) {
                Kit.same("carries its depth: " + told(method), carriesDepth(method), true);
            }
            int deep = levelsOf(method, new LinkedHashSet<>());
            Kit.same("levels of calls below " + told(method) + ": " + deep, deep <= MOST_LEVELS, true);
        }
    }

    private static String told(ExecutableElement method) {
        return method.getEnclosingElement() + "." + (method.getKind() == ElementKind.CONSTRUCTOR
            ? method.toString() : method.getSimpleName() + method.toString().substring(method.toString().indexOf('(')));
    }

    private static boolean carriesDepth(ExecutableElement method) {
        for (VariableElement parameter : method.getParameters()) {
            if (parameter.getSimpleName().contentEquals("depth")) {
                return true;
            }
        }
        return false;
    }

    private boolean isRecursive(ExecutableElement method) {
        Set<ExecutableElement> reached = new LinkedHashSet<>();
        List<ExecutableElement> left = new ArrayList<>(calls.getOrDefault(method, Set.of()));
        while (!left.isEmpty()) {
            ExecutableElement next = left.remove(left.size() - 1);
            if (reached.add(next)) {
                left.addAll(calls.getOrDefault(next, Set.of()));
            }
        }
        return reached.contains(method);
    }

    /** How many methods stand in the longest row of calls from here; those that are recursion do not count. */
    private int levelsOf(ExecutableElement method, Set<ExecutableElement> open) {
        Integer known = levels.get(method);
        if (known != null) {
            return known;
        }
        if (!open.add(method)) {
            return 0;
        }
        int most = 0;
        for (ExecutableElement next : calls.getOrDefault(method, Set.of())) {
            most = Math.max(most, levelsOf(next, open));
        }
        open.remove(method);
        boolean recursive = isRecursive(method);
        int own = most + (recursive ? 0 : 1);
        if (!recursive) {
            levels.put(method, own);
        }
        return own;
    }

    /** Goes through the source: what each method calls, and what can be seen at each tree alone. */
    private final class Reader extends TreePathScanner<Void, Void> {
        private final Trees trees;
        private ExecutableElement method;
        private int classes;

        private Reader(Trees trees) {
            this.trees = trees;
        }

        private Element meant(Tree tree) {
            return trees.getElement(trees.getPath(getCurrentPath().getCompilationUnit(), tree));
        }

        private void note(Element called) {
            ExecutableElement to = (ExecutableElement) called;
            if (to.getEnclosingElement().toString().startsWith("WallChapels")) {
                if (method != null) {
                    calls.get(method).add(to);
                }
            } else {
                Kit.same("of the library: " + told(to), LIBRARY.contains(told(to)), true);
            }
        }

        @Override
        public Void visitClass(ClassTree tree, Void none) {
            classes++;
            Kit.same("classes", classes <= MOST_CLASSES, true);
            int fields = 0;
            for (Element member : ((TypeElement) meant(tree)).getEnclosedElements()) {
                boolean constant = member.getModifiers().contains(javax.lang.model.element.Modifier.STATIC);
                fields += member.getKind() == ElementKind.FIELD && !constant ? 1 : 0;
            }
            Kit.same("fields of " + tree.getSimpleName() + ": " + fields, fields <= MOST_FIELDS, true);
            return super.visitClass(tree, none);
        }

        @Override
        public Void visitMethod(MethodTree tree, Void none) {
            ExecutableElement outer = method;
            method = (ExecutableElement) meant(tree);
            calls.put(method, new LinkedHashSet<>());
            CompilationUnitTree unit = getCurrentPath().getCompilationUnit();
            long from = trees.getSourcePositions().getStartPosition(unit, tree);
            long to = trees.getSourcePositions().getEndPosition(unit, tree);
            if (to >= 0) {
                long lines = unit.getLineMap().getLineNumber(to) - unit.getLineMap().getLineNumber(from) + 1;
                Kit.same("lines of " + told(method), lines <= MOST_LINES, true);
            }
            super.visitMethod(tree, none);
            method = outer;
            return null;
        }

        @Override
        public Void visitMethodInvocation(MethodInvocationTree tree, Void none) {
            note(meant(tree));
            return super.visitMethodInvocation(tree, none);
        }

        @Override
        public Void visitNewClass(NewClassTree tree, Void none) {
            note(meant(tree));
            return super.visitNewClass(tree, none);
        }

        @Override
        public Void visitForLoop(ForLoopTree tree, Void none) {
            Kit.same("a for with a condition: " + tree.getCondition(), tree.getCondition() != null, true);
            return super.visitForLoop(tree, none);
        }

        @Override
        public Void visitWhileLoop(WhileLoopTree tree, Void none) {
            bounded(tree.getCondition().toString());
            return super.visitWhileLoop(tree, none);
        }

        @Override
        public Void visitDoWhileLoop(DoWhileLoopTree tree, Void none) {
            bounded(tree.getCondition().toString());
            return super.visitDoWhileLoop(tree, none);
        }

        private void bounded(String condition) {
            Kit.same("a while by a counter: " + condition, condition.contains("<"), true);
        }
    }
}
