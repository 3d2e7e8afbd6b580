import com.sun.source.tree.ClassTree;
import com.sun.source.tree.CompilationUnitTree;
import com.sun.source.tree.ExpressionTree;
import com.sun.source.tree.IdentifierTree;
import com.sun.source.tree.MemberSelectTree;
import com.sun.source.tree.MethodInvocationTree;
import com.sun.source.tree.MethodTree;
import com.sun.source.tree.NewArrayTree;
import com.sun.source.tree.NewClassTree;
import com.sun.source.tree.Tree;
import com.sun.source.util.JavacTask;
import com.sun.source.util.SourcePositions;
import com.sun.source.util.TreeScanner;
import com.sun.source.util.Trees;
import java.nio.file.Path;
import java.util.ArrayList;
import java.util.List;
import java.util.Map;
import java.util.Set;
import java.util.TreeMap;
import java.util.TreeSet;
import javax.tools.JavaCompiler;
import javax.tools.StandardJavaFileManager;
import javax.tools.ToolProvider;

/** LANGUAGE.md as the compiler's own trees show it: how deep calls go, how long methods are, what is made where. */
public final class CallsInsideTest {
    private static final Check check = new Check();
    private static final Set<Tree.Kind> RULED_OUT = Set.of(Tree.Kind.THROW, Tree.Kind.TRY, Tree.Kind.CATCH,
        Tree.Kind.SYNCHRONIZED, Tree.Kind.ASSERT, Tree.Kind.LAMBDA_EXPRESSION, Tree.Kind.MEMBER_REFERENCE);

    /** Methods by name: those of one name in several classes count as one, so a depth is never told too small. */
    private final Map<String, Set<String>> callsOf = new TreeMap<>();
    private final Trees trees;
    private final CompilationUnitTree unit;

    private CallsInsideTest(Trees trees, CompilationUnitTree unit) {
        this.trees = trees;
        this.unit = unit;
    }

    public static void main(String[] args) throws Exception {
        JavaCompiler compiler = ToolProvider.getSystemJavaCompiler();
        try (StandardJavaFileManager files = compiler.getStandardFileManager(null, null, null)) {
            JavacTask task = (JavacTask) compiler.getTask(null, files, null, null, null,
                files.getJavaFileObjects(Path.of("src/main/java/LetHoles.java")));
            CompilationUnitTree unit = task.parse().iterator().next();
            CallsInsideTest looked = new CallsInsideTest(Trees.instance(task), unit);
            looked.new Look().scan(unit, "");
            looked.dueDepths();
        }
        check.end();
    }

    private void dueDepths() {
        for (String method : callsOf.keySet()) {
            List<String> deepest = deepestFrom(method, List.of());
            check.due("at most eight deep: " + deepest, deepest.size() <= 8 ? 1 : 0, 1);
        }
        check.due("the methods of the face and more were looked at", callsOf.size() > 60 ? 1 : 0, 1);
    }

    private List<String> deepestFrom(String method, List<String> ahead) {
        check.due(method + " is not called inside itself, by " + ahead, ahead.contains(method) ? 1 : 0, 0);
        List<String> here = new ArrayList<>(ahead);
        here.add(method);
        List<String> deepest = here;
        for (String called : callsOf.getOrDefault(method, Set.of())) {
            List<String> path = ahead.contains(method) ? here : deepestFrom(called, here);
            deepest = path.size() > deepest.size() ? path : deepest;
        }
        return deepest;
    }

    private long lineOf(long position) {
        return unit.getLineMap().getLineNumber(position);
    }

    /** Goes over all of the file; what is carried along is the method it is in ("" outside). */
    private final class Look extends TreeScanner<Void, String> {
        @Override
        public Void scan(Tree tree, String method) {
            if (tree != null) {
                check.due(method + " has no " + tree.getKind(), RULED_OUT.contains(tree.getKind()) ? 1 : 0, 0);
            }
            return super.scan(tree, method);
        }

        @Override
        public Void visitClass(ClassTree tree, String method) {
            check.due(tree.getSimpleName() + " is in no method and has a name",
                method.isEmpty() && tree.getSimpleName().length() > 0 ? 1 : 0, 1);
            return super.visitClass(tree, method);
        }

        @Override
        public Void visitMethod(MethodTree tree, String method) {
            String name = tree.getName().toString();
            callsOf.computeIfAbsent(name, none -> new TreeSet<>());
            SourcePositions places = trees.getSourcePositions();
            long lines = lineOf(places.getEndPosition(unit, tree)) - lineOf(places.getStartPosition(unit, tree)) + 1;
            check.due(name + " has at most sixty lines", lines <= 60 ? 1 : 0, 1);
            return super.visitMethod(tree, name);
        }

        @Override
        public Void visitMethodInvocation(MethodInvocationTree tree, String method) {
            ExpressionTree called = tree.getMethodSelect();
            if (called instanceof MemberSelectTree) {
                callsOf.get(method).add(((MemberSelectTree) called).getIdentifier().toString());
            } else if (called instanceof IdentifierTree && !called.toString().equals("super")) {
                callsOf.get(method).add(called.toString());
            }
            return super.visitMethodInvocation(tree, method);
        }

        /** All that calls work on is made with the object: what calls make would fill the room. */
        private void dueMadeWithObject(String what, String method) {
            check.due(method + " makes " + what, method.isEmpty() || method.equals("<init>") ? 1 : 0, 1);
        }

        @Override
        public Void visitNewClass(NewClassTree tree, String method) {
            dueMadeWithObject(tree.toString(), method);
            return super.visitNewClass(tree, method);
        }

        @Override
        public Void visitNewArray(NewArrayTree tree, String method) {
            dueMadeWithObject(tree.toString(), method);
            return super.visitNewArray(tree, method);
        }
    }
}
