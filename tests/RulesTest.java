import com.sun.source.tree.ClassTree;
import com.sun.source.tree.CompilationUnitTree;
import com.sun.source.tree.MethodInvocationTree;
import com.sun.source.tree.MethodTree;
import com.sun.source.tree.NewClassTree;
import com.sun.source.tree.Tree;
import com.sun.source.tree.VariableTree;
import com.sun.source.util.JavacTask;
import com.sun.source.util.TreePathScanner;
import com.sun.source.util.Trees;
import java.io.File;
import java.io.IOException;
import java.util.HashMap;
import java.util.LinkedHashSet;
import java.util.List;
import java.util.Map;
import java.util.Set;
import javax.lang.model.element.Element;
import javax.lang.model.element.Modifier;
import javax.tools.JavaCompiler;
import javax.tools.StandardJavaFileManager;
import javax.tools.ToolProvider;

/** Rules 8 and 11 of LANGUAGE.md, which are about sizes: told by the compiler's own reading of the program. */
public final class RulesTest {
    private static final int DEEPEST = 8;

    private final Trees trees;
    private final CompilationUnitTree unit;
    private final Map<Element, Set<Element>> calls = new HashMap<>();
    private int classes = 0;

    private RulesTest(Trees trees, CompilationUnitTree unit) {
        this.trees = trees;
        this.unit = unit;
    }

    public static void main(String[] args) throws IOException {
        JavaCompiler compiler = ToolProvider.getSystemJavaCompiler();
        try (StandardJavaFileManager files = compiler.getStandardFileManager(null, null, null)) {
            Iterable<? extends javax.tools.JavaFileObject> program = files.getJavaFileObjects(new File(args[0]));
            JavacTask task = (JavacTask) compiler.getTask(null, files, null, List.of("-proc:none"), null, program);
            CompilationUnitTree unit = task.parse().iterator().next();
            task.analyze();
            new RulesTest(Trees.instance(task), unit).check();
        }
        Check.finish("RulesTest");
    }

    private void check() {
        new Reader().scan(unit, null);
        Check.same("11: classes (" + classes + ")", classes > 1 && classes <= 12, true);
        int deepest = 0;
        for (Element method : calls.keySet()) {
            int depth = depthOf(method, 0);
            deepest = Math.max(deepest, depth);
            Check.same("11: calls from " + method + " are " + depth + " deep", depth <= DEEPEST, true);
        }
        Check.same("calls were found", deepest > 4, true);
    }

    /** How many methods stand open at once, those of the library too; there is no recursion, so that this ends. */
    private int depthOf(Element method, int open) {
        if (open > 50) {
            Check.same("8: " + method + " is a recursion", true, false);
            return open;
        }
        int most = 0;
        for (Element called : calls.getOrDefault(method, Set.of())) {
            most = Math.max(most, depthOf(called, open + 1));
        }
        return most + 1;
    }

    private final class Reader extends TreePathScanner<Void, Element> {
        @Override
        public Void visitClass(ClassTree tree, Element in) {
            classes++;
            int fields = 0;
            for (Tree member : tree.getMembers()) {
                boolean isField = member instanceof VariableTree;
                if (isField && !((VariableTree) member).getModifiers().getFlags().contains(Modifier.STATIC)) {
                    fields++;
                }
            }
            Check.same("11: fields of " + tree.getSimpleName() + " (" + fields + ")", fields <= 20, true);
            return super.visitClass(tree, in);
        }

        @Override
        public Void visitMethod(MethodTree tree, Element in) {
            Element method = trees.getElement(getCurrentPath());
            calls.put(method, new LinkedHashSet<>());
            Check.same("11: parameters of " + method, tree.getParameters().size() <= 7, true);
            Check.same("11: lines of " + method + " (" + linesOf(tree) + ")", linesOf(tree) <= 60, true);
            return super.visitMethod(tree, method);
        }

        private long linesOf(Tree tree) {
            long start = trees.getSourcePositions().getStartPosition(unit, tree);
            long end = trees.getSourcePositions().getEndPosition(unit, tree);
            return end < 0 ? 0 : unit.getLineMap().getLineNumber(end) - unit.getLineMap().getLineNumber(start) + 1;
        }

        @Override
        public Void visitMethodInvocation(MethodInvocationTree tree, Element in) {
            note(in);
            return super.visitMethodInvocation(tree, in);
        }

        @Override
        public Void visitNewClass(NewClassTree tree, Element in) {
            note(in);
            return super.visitNewClass(tree, in);
        }

        private void note(Element in) {
            Element called = trees.getElement(getCurrentPath());
            if (in != null && called != null) {
                calls.get(in).add(called);
            }
        }
    }
}
