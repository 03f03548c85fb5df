import com.sun.source.tree.AssertTree;
import com.sun.source.tree.BinaryTree;
import com.sun.source.tree.BlockTree;
import com.sun.source.tree.ClassTree;
import com.sun.source.tree.CompilationUnitTree;
import com.sun.source.tree.DoWhileLoopTree;
import com.sun.source.tree.ForLoopTree;
import com.sun.source.tree.LambdaExpressionTree;
import com.sun.source.tree.MemberReferenceTree;
import com.sun.source.tree.MethodInvocationTree;
import com.sun.source.tree.MethodTree;
import com.sun.source.tree.NewClassTree;
import com.sun.source.tree.SynchronizedTree;
import com.sun.source.tree.ThrowTree;
import com.sun.source.tree.Tree;
import com.sun.source.tree.TryTree;
import com.sun.source.tree.VariableTree;
import com.sun.source.tree.WhileLoopTree;
import com.sun.source.util.JavacTask;
import com.sun.source.util.TreePathScanner;
import com.sun.source.util.Trees;
import java.nio.file.Path;
import java.util.HashMap;
import java.util.HashSet;
import java.util.List;
import java.util.Map;
import java.util.Set;
import java.util.TreeSet;
import javax.lang.model.element.Element;
import javax.lang.model.element.ExecutableElement;
import javax.lang.model.element.Modifier;
import javax.lang.model.element.TypeElement;
import javax.tools.JavaCompiler;
import javax.tools.StandardJavaFileManager;
import javax.tools.ToolProvider;

/**
 * Those rules of LANGUAGE.md that can be seen in the source. It asks for less than the rules leave: of the
 * library only what the class needs today; who needs more of what rule 4 lists, adds it here.
 */
public final class LanguageTest extends TreePathScanner<Void, Void> {
    private static final Path SOURCE = Path.of("src/main/java/SeasonOfHours.java");
    private static final Set<String> LIBRARY = Set.of("java.lang.Integer.bitCount",
            "java.lang.Integer.numberOfTrailingZeros", "java.lang.Math.abs", "java.lang.Math.floorMod",
            "java.lang.Math.max", "java.lang.Math.min", "java.util.Arrays.fill");
    private static final Set<String> THROWN = Set.of("IllegalStateException", "IllegalArgumentException",
            "IndexOutOfBoundsException", "ArithmeticException", "UnsupportedOperationException",
            "NoSuchElementException", "RuntimeException");
    private static final Set<String> TYPES = Set.of("int", "long", "boolean", "int[]", "long[]", "int[][]", "long[][]");
    private static final int LONGEST_METHOD = 60;
    private static final int DEEPEST_CALL = 8;

    private final CompilationUnitTree unit;
    private final Trees trees;
    private final Map<Element, Set<Element>> calls = new HashMap<>();
    private MethodTree method;

    private LanguageTest(CompilationUnitTree unit, Trees trees) {
        this.unit = unit;
        this.trees = trees;
    }

    public static void main(String[] args) throws Exception {
        JavaCompiler compiler = ToolProvider.getSystemJavaCompiler();
        try (StandardJavaFileManager files = compiler.getStandardFileManager(null, null, null)) {
            JavacTask task = (JavacTask) compiler.getTask(null, files, null, List.of("-proc:none"), null,
                    files.getJavaFileObjects(SOURCE));
            CompilationUnitTree unit = task.parse().iterator().next();
            task.analyze();
            Check.yes("no package", unit.getPackage() == null);
            Check.due("one class in the file", unit.getTypeDecls().size(), 1);
            LanguageTest test = new LanguageTest(unit, Trees.instance(task));
            test.scan(unit, null);
            test.depths();
        }
        Check.end();
    }

    private void rule(int number, String what, Tree tree, boolean kept) {
        Check.yes("rule " + number + ", line " + firstLine(tree) + ": " + what, kept);
    }

    private long firstLine(Tree tree) {
        return line(trees.getSourcePositions().getStartPosition(unit, tree));
    }

    private long line(long position) {
        return unit.getLineMap().getLineNumber(Math.max(0, position));
    }

    private Element element() {
        return trees.getElement(getCurrentPath());
    }

    private static boolean isOwn(Element e) {
        Element type = e instanceof TypeElement ? e : e.getEnclosingElement();
        return type.toString().startsWith("SeasonOfHours");
    }

    @Override
    public Void visitClass(ClassTree tree, Void v) {
        rule(2, "no class within a method", tree, method == null);
        for (Tree member : tree.getMembers()) {
            rule(5, "no initialiser block", member, !(member instanceof BlockTree));
        }
        return super.visitClass(tree, v);
    }

    @Override
    public Void visitMethod(MethodTree tree, Void v) {
        MethodTree outer = method;
        method = tree;
        long lines = line(trees.getSourcePositions().getEndPosition(unit, tree)) - firstLine(tree) + 1;
        rule(11, "some sixty lines at most", tree, lines <= LONGEST_METHOD);
        rule(11, "seven parameters at most", tree, tree.getParameters().size() <= 7);
        calls.putIfAbsent(element(), new HashSet<>());
        super.visitMethod(tree, v);
        method = outer;
        return null;
    }

    @Override
    public Void visitVariable(VariableTree tree, Void v) {
        Element e = element();
        String type = e.asType().toString();
        rule(3, "a type that the class needs: " + type, tree, TYPES.contains(type) || type.startsWith("SeasonOfHours"));
        if (e.getModifiers().contains(Modifier.STATIC)) {
            rule(5, "static fields are final", tree, e.getModifiers().contains(Modifier.FINAL));
            rule(5, "and constants", tree, Set.of("int", "long", "long[]").contains(type));
        }
        return super.visitVariable(tree, v);
    }

    @Override
    public Void visitMethodInvocation(MethodInvocationTree tree, Void v) {
        ExecutableElement e = (ExecutableElement) element();
        String name = e.getEnclosingElement() + "." + e.getSimpleName();
        if (isOwn(e)) {
            calls.computeIfAbsent(caller(), k -> new HashSet<>()).add(e);
        } else {
            rule(4, "of the library: " + name, tree, LIBRARY.contains(name) || name.equals("java.lang.Object.<init>"));
        }
        return super.visitMethodInvocation(tree, v);
    }

    private Element caller() {
        return trees.getElement(trees.getPath(unit, method));
    }

    @Override
    public Void visitNewClass(NewClassTree tree, Void v) {
        ExecutableElement e = (ExecutableElement) element();
        String name = e.getEnclosingElement().getSimpleName().toString();
        rule(4, "new " + name, tree, isOwn(e) || THROWN.contains(name));
        rule(12, "objects come from constructors", tree, !isOwn(e) || method.getReturnType() == null);
        rule(2, "no anonymous class", tree, tree.getClassBody() == null);
        return super.visitNewClass(tree, v);
    }

    @Override
    public Void visitThrow(ThrowTree tree, Void v) {
        boolean isNew = tree.getExpression() instanceof NewClassTree made
                && THROWN.contains(made.getIdentifier().toString())
                && made.getArguments().stream().allMatch(a -> a.getKind() == Tree.Kind.STRING_LITERAL);
        rule(6, "throw new E(text)", tree, isNew);
        rule(6, "only at() throws", tree, method.getName().contentEquals("at"));
        return super.visitThrow(tree, v);
    }

    @Override
    public Void visitForLoop(ForLoopTree tree, Void v) {
        rule(9, "a loop with an end", tree, tree.getCondition() != null && !tree.getUpdate().isEmpty());
        return super.visitForLoop(tree, v);
    }

    @Override
    public Void visitWhileLoop(WhileLoopTree tree, Void v) {
        rule(9, "all loops count", tree, false);
        return super.visitWhileLoop(tree, v);
    }

    @Override
    public Void visitDoWhileLoop(DoWhileLoopTree tree, Void v) {
        rule(9, "all loops count", tree, false);
        return super.visitDoWhileLoop(tree, v);
    }

    @Override
    public Void visitBinary(BinaryTree tree, Void v) {
        rule(10, "no joining of texts by +", tree, !trees.getTypeMirror(getCurrentPath()).toString().endsWith("String"));
        return super.visitBinary(tree, v);
    }

    @Override
    public Void visitLambdaExpression(LambdaExpressionTree tree, Void v) {
        rule(2, "no lambda", tree, false);
        return super.visitLambdaExpression(tree, v);
    }

    @Override
    public Void visitMemberReference(MemberReferenceTree tree, Void v) {
        rule(2, "no method reference", tree, false);
        return super.visitMemberReference(tree, v);
    }

    @Override
    public Void visitTry(TryTree tree, Void v) {
        rule(6, "nothing is caught", tree, false);
        return super.visitTry(tree, v);
    }

    @Override
    public Void visitSynchronized(SynchronizedTree tree, Void v) {
        rule(6, "no synchronized", tree, false);
        return super.visitSynchronized(tree, v);
    }

    @Override
    public Void visitAssert(AssertTree tree, Void v) {
        rule(6, "no assert", tree, false);
        return super.visitAssert(tree, v);
    }

    /** Rule 11: calls that are no recursion go at most eight deep. */
    private void depths() {
        TreeSet<String> recursive = new TreeSet<>();
        for (Element from : calls.keySet()) {
            int depth = depthFrom(from, new HashSet<>(), recursive);
            Check.yes("rule 11: eight deep at most: " + from, depth <= DEEPEST_CALL);
        }
        Check.yes("rule 8: only the filling of an evening calls itself: " + recursive,
                Set.of("fillFrom", "fillWith").containsAll(recursive));
    }

    private int depthFrom(Element from, Set<Element> open, Set<String> recursive) {
        if (!open.add(from)) {
            recursive.add(from.getSimpleName().toString());
            return 0;
        }
        int deepest = 0;
        for (Element to : calls.getOrDefault(from, Set.of())) {
            deepest = Math.max(deepest, depthFrom(to, open, recursive));
        }
        open.remove(from);
        return deepest + 1;
    }
}
