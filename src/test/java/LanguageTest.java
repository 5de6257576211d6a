import com.sun.source.tree.AssertTree;
import com.sun.source.tree.ClassTree;
import com.sun.source.tree.CompilationUnitTree;
import com.sun.source.tree.ImportTree;
import com.sun.source.tree.LambdaExpressionTree;
import com.sun.source.tree.LineMap;
import com.sun.source.tree.MemberReferenceTree;
import com.sun.source.tree.MethodInvocationTree;
import com.sun.source.tree.MethodTree;
import com.sun.source.tree.SynchronizedTree;
import com.sun.source.tree.ThrowTree;
import com.sun.source.tree.Tree;
import com.sun.source.tree.TryTree;
import com.sun.source.tree.VariableTree;
import com.sun.source.tree.IdentifierTree;
import com.sun.source.tree.MemberSelectTree;
import com.sun.source.util.JavacTask;
import com.sun.source.util.SourcePositions;
import com.sun.source.util.TreeScanner;
import com.sun.source.util.Trees;
import java.io.File;
import java.util.Map;
import java.util.Set;
import java.util.TreeMap;
import java.util.TreeSet;
import javax.lang.model.element.Modifier;
import javax.tools.JavaCompiler;
import javax.tools.StandardJavaFileManager;
import javax.tools.ToolProvider;

/** What of ../shared/LANGUAGE.md can be counted in the source. */
public final class LanguageTest extends TreeScanner<Void, Void> {
    private final Map<String, Set<String>> calls = new TreeMap<>();
    private final SourcePositions positions;
    private final CompilationUnitTree unit;
    private String method = "";
    private int classes;
    private int forbidden;

    private LanguageTest(SourcePositions positions, CompilationUnitTree unit) {
        this.positions = positions;
        this.unit = unit;
    }

    public static void main(String[] args) throws Exception {
        JavaCompiler compiler = ToolProvider.getSystemJavaCompiler();
        StandardJavaFileManager files = compiler.getStandardFileManager(null, null, null);
        JavacTask task = (JavacTask) compiler.getTask(null, files, null, null, null,
            files.getJavaFileObjects(new File("src/main/java/ThirdSon.java")));
        CompilationUnitTree unit = task.parse().iterator().next();
        LanguageTest test = new LanguageTest(Trees.instance(task).getSourcePositions(), unit);
        test.scan(unit, null);
        Check.due("no package", unit.getPackageName() == null ? 0 : 1, 0);
        Check.due("imports, throw, try, assert, synchronized, lambdas", test.forbidden, 0);
        Check.due("at most twelve classes", test.classes <= 12 ? 1 : test.classes, 1);
        test.checkDepth();
        Check.close("LanguageTest");
    }

    @Override
    public Void scan(Tree tree, Void nothing) {
        if (tree instanceof ThrowTree || tree instanceof TryTree || tree instanceof AssertTree
            || tree instanceof SynchronizedTree || tree instanceof LambdaExpressionTree
            || tree instanceof MemberReferenceTree || tree instanceof ImportTree) {
            forbidden++;
        }
        return super.scan(tree, nothing);
    }

    @Override
    public Void visitClass(ClassTree tree, Void nothing) {
        classes++;
        int fields = 0;
        for (Tree member : tree.getMembers()) {
            if (member instanceof VariableTree) {
                Set<Modifier> how = ((VariableTree) member).getModifiers().getFlags();
                boolean shared = how.contains(Modifier.STATIC);
                fields += shared ? 0 : 1;
                Check.due(member + " is final if static",
                    shared && !how.contains(Modifier.FINAL) ? 1 : 0, 0);
            }
        }
        Check.due("fields of " + tree.getSimpleName(), fields <= 20 ? 1 : fields, 1);
        return super.visitClass(tree, nothing);
    }

    @Override
    public Void visitMethod(MethodTree tree, Void nothing) {
        LineMap lines = unit.getLineMap();
        long length = lines.getLineNumber(positions.getEndPosition(unit, tree))
            - lines.getLineNumber(positions.getStartPosition(unit, tree)) + 1;
        Check.due("lines of " + tree.getName(), length <= 60 ? 1 : length, 1);
        int parameters = tree.getParameters().size();
        Check.due("parameters of " + tree.getName(), parameters <= 7 ? 1 : parameters, 1);
        method = tree.getName().toString();
        calls.computeIfAbsent(method, m -> new TreeSet<>());
        return super.visitMethod(tree, nothing);
    }

    @Override
    public Void visitMethodInvocation(MethodInvocationTree tree, Void nothing) {
        Tree called = tree.getMethodSelect();
        String name = called instanceof IdentifierTree
            ? ((IdentifierTree) called).getName().toString()
            : ((MemberSelectTree) called).getIdentifier().toString();
        calls.computeIfAbsent(method, m -> new TreeSet<>()).add(name);
        return super.visitMethodInvocation(tree, nothing);
    }

    /** Names are enough: no two methods of the program share one. */
    private void checkDepth() {
        for (String name : calls.keySet()) {
            int depth = depthOf(name, new TreeSet<>());
            Check.due("calls below " + name + " go eight deep at most", depth <= 8 ? 1 : depth, 1);
        }
    }

    private int depthOf(String name, Set<String> open) {
        if (!calls.containsKey(name) || !open.add(name)) {
            return 0;
        }
        int deepest = 0;
        for (String called : calls.get(name)) {
            deepest = Math.max(deepest, depthOf(called, open));
        }
        open.remove(name);
        return 1 + deepest;
    }
}
