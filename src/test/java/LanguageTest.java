import com.sun.source.tree.ArrayAccessTree;
import com.sun.source.tree.ArrayTypeTree;
import com.sun.source.tree.AssertTree;
import com.sun.source.tree.AssignmentTree;
import com.sun.source.tree.BinaryTree;
import com.sun.source.tree.BlockTree;
import com.sun.source.tree.ClassTree;
import com.sun.source.tree.CompilationUnitTree;
import com.sun.source.tree.CompoundAssignmentTree;
import com.sun.source.tree.DoWhileLoopTree;
import com.sun.source.tree.ExpressionTree;
import com.sun.source.tree.ForLoopTree;
import com.sun.source.tree.LambdaExpressionTree;
import com.sun.source.tree.LiteralTree;
import com.sun.source.tree.MemberReferenceTree;
import com.sun.source.tree.MethodInvocationTree;
import com.sun.source.tree.MethodTree;
import com.sun.source.tree.NewArrayTree;
import com.sun.source.tree.NewClassTree;
import com.sun.source.tree.SynchronizedTree;
import com.sun.source.tree.ThrowTree;
import com.sun.source.tree.Tree;
import com.sun.source.tree.TryTree;
import com.sun.source.tree.VariableTree;
import com.sun.source.tree.WhileLoopTree;
import com.sun.source.util.JavacTask;
import com.sun.source.util.TreePath;
import com.sun.source.util.TreePathScanner;
import com.sun.source.util.Trees;
import java.io.IOException;
import java.nio.file.Path;
import java.util.ArrayList;
import java.util.List;
import java.util.Map;
import java.util.Set;
import java.util.TreeMap;
import java.util.TreeSet;
import javax.lang.model.element.Element;
import javax.lang.model.element.Modifier;
import javax.lang.model.type.ArrayType;
import javax.lang.model.type.TypeKind;
import javax.lang.model.type.TypeMirror;
import javax.tools.JavaCompiler;
import javax.tools.StandardJavaFileManager;
import javax.tools.ToolProvider;

/**
 * The rules of LANGUAGE.md that a look at the source can tell. Where the class needs less than a
 * rule leaves it (no library but Math, no texts, no try), the test asks for the less: it is easier
 * to see. Rule 1 is FaceTest's; the rest of 7 is left to the tests that call with any arguments.
 */
public final class LanguageTest extends TreePathScanner<Void, Void> {
    private static final Due DUE = new Due("LanguageTest");
    private static final Set<String> EXCEPTIONS = Set.of("IllegalStateException",
        "IllegalArgumentException", "IndexOutOfBoundsException");
    private static final Set<TypeKind> PRIMITIVES = Set.of(TypeKind.INT, TypeKind.LONG,
        TypeKind.BYTE, TypeKind.BOOLEAN);
    private static final Set<String> STATIC_TYPES = Set.of("int", "long", "boolean", "int[]");
    private static final int MOST_PARAMETERS = 7;
    private static final int MOST_LINES = 60;
    private static final int MOST_DEEP = 8;
    private static final int MOST_CLASSES = 12;
    private static final int MOST_FIELDS = 20;

    private final CompilationUnitTree unit;
    private final Trees trees;
    private final Map<String, Set<String>> callsOf = new TreeMap<>();
    private int classes = 0;

    private LanguageTest(CompilationUnitTree unit, Trees trees) {
        this.unit = unit;
        this.trees = trees;
    }

    public static void main(String[] args) throws IOException {
        Path source = Path.of(args.length > 0 ? args[0] : "src/main/java/GuardedPackets.java");
        JavaCompiler compiler = ToolProvider.getSystemJavaCompiler();
        try (StandardJavaFileManager files = compiler.getStandardFileManager(null, null, null)) {
            JavacTask task = (JavacTask) compiler.getTask(null, files, null,
                List.of("-proc:none"), null, files.getJavaFileObjects(source));
            CompilationUnitTree unit = task.parse().iterator().next();
            task.analyze();
            new LanguageTest(unit, Trees.instance(task)).look();
        }
        DUE.finish();
    }

    private void look() {
        say("0", "a package line", unit.getPackage() == null);
        say("0", "more than one class outside", unit.getTypeDecls().size() == 1);
        say("4", "an import", unit.getImports().isEmpty());
        scan(unit, null);
        DUE.answer("the class was looked at", callsOf.size() > 19, true);
        say("11", "classes " + classes, classes <= MOST_CLASSES);
        for (String method : callsOf.keySet()) {
            depth(method, new ArrayList<>());
        }
    }

    private void say(String rule, String what, boolean holds) {
        DUE.answer("rule " + rule + ": " + what, holds, true);
    }

    private void say(String rule, Tree tree, boolean holds) {
        say(rule, "line " + lineOf(trees.getSourcePositions().getStartPosition(unit, tree))
            + ": " + tree.toString().strip(), holds);
    }

    private long lineOf(long position) {
        return unit.getLineMap().getLineNumber(position);
    }

    private Tree parent() {
        return getCurrentPath().getParentPath().getLeaf();
    }

    private TypeMirror typeOf(Tree tree) {
        return trees.getTypeMirror(new TreePath(getCurrentPath(), tree));
    }

    /** An int, long, byte or boolean, an object of a class of its own, or a row of these. */
    private boolean isPlain(TypeMirror type) {
        if (type.getKind() == TypeKind.ARRAY) {
            TypeMirror element = ((ArrayType) type).getComponentType();
            return element.getKind() != TypeKind.ARRAY && isPlain(element);
        }
        return PRIMITIVES.contains(type.getKind()) || isOwn(type.toString());
    }

    private static boolean isOwn(String name) {
        return name.equals("GuardedPackets") || name.startsWith("GuardedPackets.");
    }

    /** The method round this place, or null in a field's initialiser. */
    private MethodTree methodHere() {
        for (TreePath p = getCurrentPath(); p != null; p = p.getParentPath()) {
            if (p.getLeaf() instanceof MethodTree method) {
                return method;
            }
        }
        return null;
    }

    private static boolean isConstructor(MethodTree method) {
        return method.getName().contentEquals("<init>");
    }

    private static String nameOf(Element method) {
        return method.getEnclosingElement() + "." + method;
    }

    @Override
    public Void visitClass(ClassTree tree, Void none) {
        classes++;
        int fields = 0;
        for (Tree member : tree.getMembers()) {
            if (member instanceof VariableTree v) {
                fields += v.getModifiers().getFlags().contains(Modifier.STATIC) ? 0 : 1;
            }
            if (member instanceof BlockTree) {
                say("5", member, false);
            }
        }
        say("11", tree.getSimpleName() + " has fields: " + fields, fields <= MOST_FIELDS);
        boolean isOuter = parent() instanceof CompilationUnitTree;
        boolean isNested = parent() instanceof ClassTree
            && tree.getModifiers().getFlags().contains(Modifier.STATIC);
        say("2", "class " + tree.getSimpleName(), isOuter || isNested);
        say("6", tree.getSimpleName() + " extends something", tree.getExtendsClause() == null);
        return super.visitClass(tree, none);
    }

    @Override
    public Void visitVariable(VariableTree tree, Void none) {
        say("3", tree, isPlain(trees.getTypeMirror(getCurrentPath())));
        if (tree.getModifiers().getFlags().contains(Modifier.STATIC)) {
            say("5", tree, tree.getModifiers().getFlags().contains(Modifier.FINAL)
                && STATIC_TYPES.contains(tree.getType().toString()));
            say("5", tree, !(tree.getType() instanceof ArrayTypeTree)
                || isWrittenOut(tree.getInitializer()));
        }
        return super.visitVariable(tree, none);
    }

    private static boolean isWrittenOut(Tree initialiser) {
        return initialiser instanceof NewArrayTree row && row.getInitializers() != null
            && row.getInitializers().stream().allMatch(e -> e instanceof LiteralTree);
    }

    @Override
    public Void visitAssignment(AssignmentTree tree, Void none) {
        say("5", tree, !isStaticRow(tree.getVariable()));
        return super.visitAssignment(tree, none);
    }

    @Override
    public Void visitCompoundAssignment(CompoundAssignmentTree tree, Void none) {
        say("5", tree, !isStaticRow(tree.getVariable()));
        return super.visitCompoundAssignment(tree, none);
    }

    private boolean isStaticRow(ExpressionTree target) {
        if (!(target instanceof ArrayAccessTree access)) {
            return false;
        }
        Element row = trees.getElement(trees.getPath(unit, access.getExpression()));
        return row != null && row.getModifiers().contains(Modifier.STATIC);
    }

    @Override
    public Void visitMethod(MethodTree tree, Void none) {
        callsOf.computeIfAbsent(nameOf(trees.getElement(getCurrentPath())), k -> new TreeSet<>());
        // The constructors that the compiler adds have no place of their own in the source.
        long from = lineOf(trees.getSourcePositions().getStartPosition(unit, tree));
        long to = trees.getSourcePositions().getEndPosition(unit, tree);
        say("11", tree.getName() + " is long", to < 0 || lineOf(to) - from < MOST_LINES);
        say("11", tree.getName() + " takes a lot", tree.getParameters().size() <= MOST_PARAMETERS);
        Set<String> notOwn = Set.of("equals", "hashCode", "toString", "compareTo");
        say("6", tree.getName() + " is one of every object's",
            !notOwn.contains(tree.getName().toString()));
        return super.visitMethod(tree, none);
    }

    @Override
    public Void visitMethodInvocation(MethodInvocationTree tree, Void none) {
        Element called = trees.getElement(getCurrentPath());
        String owner = called.getEnclosingElement().toString();
        String name = called.getSimpleName().toString();
        boolean isMath = owner.equals("java.lang.Math") && !name.endsWith("Exact");
        boolean isSuper = name.equals("<init>");
        say("4", tree, isOwn(owner) || isMath || isSuper);
        MethodTree here = methodHere();
        if (isOwn(owner) && here != null) {
            Element caller = trees.getElement(trees.getPath(unit, here));
            callsOf.computeIfAbsent(nameOf(caller), k -> new TreeSet<>()).add(nameOf(called));
        }
        say("12", tree, here != null && (isSuper || !isConstructor(here)));
        return super.visitMethodInvocation(tree, none);
    }

    /** How many calls stand open at once from a method on; the class has no recursion at all. */
    private int depth(String method, List<String> open) {
        if (open.contains(method)) {
            say("8", "recursion " + open + " " + method, false);
            return 0;
        }
        open.add(method);
        int deepest = 0;
        for (String called : callsOf.getOrDefault(method, Set.of())) {
            deepest = Math.max(deepest, depth(called, open));
        }
        open.remove(open.size() - 1);
        say("11", method + " goes deep: " + (deepest + 1), deepest + 1 <= MOST_DEEP);
        return deepest + 1;
    }

    @Override
    public Void visitThrow(ThrowTree tree, Void none) {
        say("6", tree, tree.getExpression() instanceof NewClassTree made
            && EXCEPTIONS.contains(made.getIdentifier().toString())
            && made.getArguments().isEmpty());
        MethodTree here = methodHere();
        say("6", tree, here != null && !isConstructor(here));
        return super.visitThrow(tree, none);
    }

    /** All that an object ever needs is made with it, so that no call takes more of the room. */
    @Override
    public Void visitNewClass(NewClassTree tree, Void none) {
        MethodTree here = methodHere();
        say("12", tree, here == null || isConstructor(here) || parent() instanceof ThrowTree);
        say("2", tree, tree.getClassBody() == null);
        say("4", tree, parent() instanceof ThrowTree
            || isOwn(typeOf(tree.getIdentifier()).toString()));
        return super.visitNewClass(tree, none);
    }

    @Override
    public Void visitNewArray(NewArrayTree tree, Void none) {
        MethodTree here = methodHere();
        say("12", tree, here == null || isConstructor(here));
        say("3", tree, tree.getDimensions().size() <= 1);
        return super.visitNewArray(tree, none);
    }

    /** A division by a constant that is not 0, or by the window, which add has looked at. */
    @Override
    public Void visitBinary(BinaryTree tree, Void none) {
        if (tree.getKind() == Tree.Kind.DIVIDE || tree.getKind() == Tree.Kind.REMAINDER) {
            ExpressionTree divisor = tree.getRightOperand();
            boolean isSafe = divisor.toString().equals("width")
                || divisor instanceof LiteralTree n && !n.getValue().equals(0);
            say("7", tree, isSafe);
        }
        return super.visitBinary(tree, none);
    }

    @Override
    public Void visitForLoop(ForLoopTree tree, Void none) {
        say("9", tree, tree.getCondition() != null);
        return super.visitForLoop(tree, none);
    }

    @Override
    public Void visitWhileLoop(WhileLoopTree tree, Void none) {
        say("9", tree, !tree.getCondition().toString().equals("(true)"));
        return super.visitWhileLoop(tree, none);
    }

    @Override
    public Void visitDoWhileLoop(DoWhileLoopTree tree, Void none) {
        say("9", tree, false);
        return super.visitDoWhileLoop(tree, none);
    }

    @Override
    public Void visitLambdaExpression(LambdaExpressionTree tree, Void none) {
        say("2", tree, false);
        return super.visitLambdaExpression(tree, none);
    }

    @Override
    public Void visitMemberReference(MemberReferenceTree tree, Void none) {
        say("2", tree, false);
        return super.visitMemberReference(tree, none);
    }

    @Override
    public Void visitTry(TryTree tree, Void none) {
        say("6", tree, false);
        return super.visitTry(tree, none);
    }

    @Override
    public Void visitSynchronized(SynchronizedTree tree, Void none) {
        say("6", tree, false);
        return super.visitSynchronized(tree, none);
    }

    @Override
    public Void visitAssert(AssertTree tree, Void none) {
        say("6", tree, false);
        return super.visitAssert(tree, none);
    }
}
