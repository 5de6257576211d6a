import com.sun.source.tree.BinaryTree;
import com.sun.source.tree.BlockTree;
import com.sun.source.tree.ClassTree;
import com.sun.source.tree.CompilationUnitTree;
import com.sun.source.tree.CompoundAssignmentTree;
import com.sun.source.tree.DoWhileLoopTree;
import com.sun.source.tree.ExpressionTree;
import com.sun.source.tree.ForLoopTree;
import com.sun.source.tree.InstanceOfTree;
import com.sun.source.tree.LiteralTree;
import com.sun.source.tree.MethodInvocationTree;
import com.sun.source.tree.MethodTree;
import com.sun.source.tree.NewArrayTree;
import com.sun.source.tree.NewClassTree;
import com.sun.source.tree.Tree;
import com.sun.source.tree.TypeCastTree;
import com.sun.source.tree.VariableTree;
import com.sun.source.tree.WhileLoopTree;
import com.sun.source.util.JavacTask;
import com.sun.source.util.TreePath;
import com.sun.source.util.TreePathScanner;
import com.sun.source.util.Trees;
import java.io.File;
import java.util.Map;
import java.util.Set;
import java.util.TreeMap;
import java.util.TreeSet;
import javax.lang.model.element.Element;
import javax.lang.model.element.Modifier;
import javax.lang.model.element.TypeElement;
import javax.lang.model.type.ArrayType;
import javax.lang.model.type.TypeKind;
import javax.lang.model.type.TypeMirror;
import javax.tools.JavaCompiler;
import javax.tools.StandardJavaFileManager;
import javax.tools.ToolProvider;

/** The rules of ../shared/LANGUAGE.md for which the types of the source must be known. */
public final class LanguageRulesTest extends TreePathScanner<Void, Void> {
    private static final Set<String> LIBRARY = Set.of(
        "java.lang.String", "java.lang.StringBuilder", "java.util.List", "java.util.ArrayList");
    private static final Map<String, Set<String>> METHODS = Map.of(
        "java.lang.String", Set.of("length", "charAt", "isEmpty", "equals", "indexOf", "substring",
            "toCharArray"),
        "java.lang.StringBuilder", Set.of("append", "charAt", "setCharAt", "setLength",
            "deleteCharAt", "reverse", "length", "toString"),
        "java.util.List", Set.of("add", "get", "set", "remove", "size", "isEmpty", "clear", "of"),
        "java.util.ArrayList", Set.of("add", "get", "set", "remove", "size", "isEmpty", "clear"),
        "java.lang.Integer", Set.of("compare", "max", "min", "bitCount"),
        "java.lang.Long", Set.of("compare", "max", "min", "bitCount"),
        "java.lang.Math", Set.of("max", "min", "abs", "floorDiv", "floorMod"),
        "java.lang.System", Set.of("arraycopy"),
        "java.util.Arrays", Set.of("copyOf", "copyOfRange", "fill"));

    private final Trees trees;
    private final Map<String, Set<String>> calls = new TreeMap<>();
    private final Set<String> privateMethods = new TreeSet<>();
    private final Set<String> publicMethods = new TreeSet<>();
    private int methodsSeen;

    private LanguageRulesTest(Trees trees) {
        this.trees = trees;
    }

    public static void main(String[] args) throws Exception {
        JavaCompiler compiler = ToolProvider.getSystemJavaCompiler();
        StandardJavaFileManager files = compiler.getStandardFileManager(null, null, null);
        JavacTask task = (JavacTask) compiler.getTask(null, files, null, null, null,
            files.getJavaFileObjects(new File("src/main/java/ThirdSon.java")));
        CompilationUnitTree unit = task.parse().iterator().next();
        task.analyze();
        LanguageRulesTest test = new LanguageRulesTest(Trees.instance(task));
        test.scan(unit, null);
        Check.due("one class beside those inside it", unit.getTypeDecls().size(), 1);
        Check.due("methods were looked at", test.methodsSeen > 100 ? 1 : test.methodsSeen, 1);
        test.checkNames();
        test.checkRecursion();
        Check.close("LanguageRulesTest");
    }

    private static void never(String what, boolean found) {
        Check.due(what, found ? 1 : 0, 0);
    }

    private TypeMirror typeOf(Tree tree) {
        return trees.getTypeMirror(new TreePath(getCurrentPath(), tree));
    }

    private static boolean isNumber(TypeMirror type) {
        return type.getKind().isPrimitive();
    }

    /** Rule 3: its own classes, numbers, what stands of the library, arrays of these. */
    private static boolean isAllowed(TypeMirror type) {
        if (type.getKind() == TypeKind.ARRAY) {
            TypeMirror part = ((ArrayType) type).getComponentType();
            if (part.getKind() == TypeKind.ARRAY) {
                return isNumber(((ArrayType) part).getComponentType());
            }
            return isNumber(part) || isOwn(part.toString());
        }
        String name = type.toString().replaceAll("<.*", "");
        return type.getKind() == TypeKind.VOID || isNumber(type) || isOwn(name)
            || LIBRARY.contains(name);
    }

    private static boolean isOwn(String name) {
        return name.equals("ThirdSon") || name.startsWith("ThirdSon.");
    }

    private static boolean isText(TypeMirror type) {
        return type != null && type.toString().equals("java.lang.String");
    }

    // ---- classes, fields, methods

    @Override
    public Void visitClass(ClassTree tree, Void nothing) {
        Tree around = getCurrentPath().getParentPath().getLeaf();
        Set<Modifier> how = tree.getModifiers().getFlags();
        boolean inside = around instanceof ClassTree;
        never("rule 2: a class within a method, " + tree.getSimpleName(),
            !inside && !(around instanceof CompilationUnitTree));
        never("rule 2: not static, " + tree.getSimpleName(),
            inside && tree.getKind() == Tree.Kind.CLASS && !how.contains(Modifier.STATIC));
        never("rule 1: public or protected, " + tree.getSimpleName(),
            inside && (how.contains(Modifier.PUBLIC) || how.contains(Modifier.PROTECTED)));
        for (Tree member : tree.getMembers()) {
            never("rule 5: a static block",
                member instanceof BlockTree && ((BlockTree) member).isStatic());
        }
        return super.visitClass(tree, nothing);
    }

    @Override
    public Void visitVariable(VariableTree tree, Void nothing) {
        TypeMirror type = trees.getTypeMirror(getCurrentPath());
        never("rule 3: the type of " + tree, !isAllowed(type));
        boolean field = getCurrentPath().getParentPath().getLeaf() instanceof ClassTree;
        Set<Modifier> how = tree.getModifiers().getFlags();
        if (field && how.contains(Modifier.STATIC)) {
            never("rule 5: not final, " + tree, !how.contains(Modifier.FINAL));
            never("rule 5: no constant, " + tree, !isConstant(type, tree.getInitializer()));
        }
        return super.visitVariable(tree, nothing);
    }

    private static boolean isConstant(TypeMirror type, ExpressionTree value) {
        if (type.getKind() == TypeKind.ARRAY) {
            return value instanceof NewArrayTree && ((NewArrayTree) value).getInitializers() != null
                && isNumber(((ArrayType) type).getComponentType());
        }
        return value != null && (isNumber(type) || isText(type));
    }

    @Override
    public Void visitMethod(MethodTree tree, Void nothing) {
        methodsSeen++;
        Set<Modifier> how = tree.getModifiers().getFlags();
        String name = tree.getName().toString();
        if (tree.getReturnType() == null) {
            // constructors: that of the class alone is public, as FaceTest has it
            return super.visitMethod(tree, nothing);
        }
        if (how.contains(Modifier.PRIVATE)) {
            privateMethods.add(name);
        } else if (how.contains(Modifier.PUBLIC)) {
            publicMethods.add(name);
        }
        never("rule 3: what " + name + " answers", !isAllowed(typeOf(tree.getReturnType())));
        never("rule 6: equals, hashCode, toString of its own",
            Set.of("equals", "hashCode", "toString").contains(name));
        never("rule 6: synchronized, native, strictfp " + name, how.contains(Modifier.SYNCHRONIZED)
            || how.contains(Modifier.NATIVE) || how.contains(Modifier.STRICTFP));
        never("rule 6: throws of " + name, !tree.getThrows().isEmpty());
        calls.computeIfAbsent(name, n -> new TreeSet<>());
        return super.visitMethod(tree, nothing);
    }

    // ---- the library

    @Override
    public Void visitMethodInvocation(MethodInvocationTree tree, Void nothing) {
        Element called = trees.getElement(getCurrentPath());
        String name = called.getSimpleName().toString();
        String owner = ((TypeElement) called.getEnclosingElement()).getQualifiedName().toString();
        MethodTree caller = methodAround();
        if (caller != null && isOwn(owner)) {
            calls.computeIfAbsent(caller.getName().toString(), n -> new TreeSet<>()).add(name);
        }
        boolean ancestor = name.equals("<init>");
        boolean copy = name.equals("clone");
        never("rule 4: " + owner + "." + name, !isOwn(owner) && !ancestor && !copy
            && !METHODS.getOrDefault(owner, Set.of()).contains(name));
        return super.visitMethodInvocation(tree, nothing);
    }

    private MethodTree methodAround() {
        for (TreePath path = getCurrentPath(); path != null; path = path.getParentPath()) {
            if (path.getLeaf() instanceof MethodTree) {
                return (MethodTree) path.getLeaf();
            }
        }
        return null;
    }

    /** Rule 12 bears more: that no call makes an object is what README.md says. */
    private boolean isInACall() {
        MethodTree method = methodAround();
        return method != null && !method.getName().contentEquals("<init>");
    }

    @Override
    public Void visitNewClass(NewClassTree tree, Void nothing) {
        String name = typeOf(tree.getIdentifier()).toString().replaceAll("<.*", "");
        never("rule 4: new " + name, !isOwn(name) && !LIBRARY.contains(name));
        never("rule 2: a body of new " + name, tree.getClassBody() != null);
        never("an object made by a call: " + tree, isInACall());
        return super.visitNewClass(tree, nothing);
    }

    @Override
    public Void visitNewArray(NewArrayTree tree, Void nothing) {
        never("an array made by a call: " + tree, isInACall());
        return super.visitNewArray(tree, nothing);
    }

    // ---- within methods

    @Override
    public Void visitBinary(BinaryTree tree, Void nothing) {
        TypeMirror left = typeOf(tree.getLeftOperand());
        TypeMirror right = typeOf(tree.getRightOperand());
        boolean plus = tree.getKind() == Tree.Kind.PLUS;
        boolean same = tree.getKind() == Tree.Kind.EQUAL_TO || tree.getKind() == Tree.Kind.NOT_EQUAL_TO;
        never("rule 10: texts joined by +, " + tree, plus && (isText(left) || isText(right)));
        never("rule 6: == of texts, " + tree, same && isText(left) && isText(right));
        return super.visitBinary(tree, nothing);
    }

    @Override
    public Void visitCompoundAssignment(CompoundAssignmentTree tree, Void nothing) {
        never("rule 10: texts joined by +=, " + tree, isText(typeOf(tree.getVariable())));
        return super.visitCompoundAssignment(tree, nothing);
    }

    @Override
    public Void visitTypeCast(TypeCastTree tree, Void nothing) {
        never("a cast among classes: " + tree, !isNumber(typeOf(tree.getType())));
        return super.visitTypeCast(tree, nothing);
    }

    @Override
    public Void visitInstanceOf(InstanceOfTree tree, Void nothing) {
        never("rule 6: instanceof but of its own classes, " + tree,
            tree.getType() == null || !isOwn(typeOf(tree.getType()).toString()));
        return super.visitInstanceOf(tree, nothing);
    }

    @Override
    public Void visitLiteral(LiteralTree tree, Void nothing) {
        if (tree.getValue() instanceof String) {
            for (char c : ((String) tree.getValue()).toCharArray()) {
                never("rule 4: a sign of " + tree, c < 1 || c > 127);
            }
        }
        return super.visitLiteral(tree, nothing);
    }

    private static void mustEnd(String loop, ExpressionTree condition) {
        String text = condition == null ? "" : condition.toString().replaceAll("[()]", "");
        never("rule 9: a loop without an end, " + loop, text.isEmpty() || text.equals("true"));
    }

    @Override
    public Void visitForLoop(ForLoopTree tree, Void nothing) {
        mustEnd("for", tree.getCondition());
        return super.visitForLoop(tree, nothing);
    }

    @Override
    public Void visitWhileLoop(WhileLoopTree tree, Void nothing) {
        mustEnd("while", tree.getCondition());
        return super.visitWhileLoop(tree, nothing);
    }

    @Override
    public Void visitDoWhileLoop(DoWhileLoopTree tree, Void nothing) {
        mustEnd("do", tree.getCondition());
        return super.visitDoWhileLoop(tree, nothing);
    }

    // ---- behind all

    /** Rule 1: no private method bears the name of a public one. */
    private void checkNames() {
        for (String name : privateMethods) {
            never("rule 1: private " + name, publicMethods.contains(name));
        }
    }

    /** Rule 8: what calls itself, or is called by what it calls, is private. */
    private void checkRecursion() {
        for (String name : calls.keySet()) {
            boolean again = reaches(name, name, new TreeSet<>());
            never("rule 8: " + name + " calls itself and is not private",
                again && !privateMethods.contains(name));
        }
    }

    private boolean reaches(String from, String to, Set<String> seen) {
        for (String called : calls.getOrDefault(from, Set.of())) {
            if (called.equals(to) || seen.add(called) && reaches(called, to, seen)) {
                return true;
            }
        }
        return false;
    }
}
