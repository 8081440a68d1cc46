import com.sun.source.tree.AssertTree;
import com.sun.source.tree.AssignmentTree;
import com.sun.source.tree.BinaryTree;
import com.sun.source.tree.ClassTree;
import com.sun.source.tree.CompilationUnitTree;
import com.sun.source.tree.CompoundAssignmentTree;
import com.sun.source.tree.ExpressionTree;
import com.sun.source.tree.LambdaExpressionTree;
import com.sun.source.tree.MemberReferenceTree;
import com.sun.source.tree.MethodInvocationTree;
import com.sun.source.tree.MethodTree;
import com.sun.source.tree.NewArrayTree;
import com.sun.source.tree.NewClassTree;
import com.sun.source.tree.SynchronizedTree;
import com.sun.source.tree.ThrowTree;
import com.sun.source.tree.Tree;
import com.sun.source.tree.TryTree;
import com.sun.source.tree.UnaryTree;
import com.sun.source.tree.VariableTree;
import com.sun.source.util.JavacTask;
import com.sun.source.util.SourcePositions;
import com.sun.source.util.TreePath;
import com.sun.source.util.TreePathScanner;
import com.sun.source.util.Trees;
import java.io.IOException;
import java.nio.file.Path;
import java.util.HashMap;
import java.util.HashSet;
import java.util.LinkedHashSet;
import java.util.Map;
import java.util.Set;
import javax.lang.model.element.Element;
import javax.lang.model.element.ElementKind;
import javax.lang.model.element.Modifier;
import javax.tools.JavaCompiler;
import javax.tools.StandardJavaFileManager;
import javax.tools.ToolProvider;

/** The rules of LANGUAGE.md that the compiler's trees of the program can show. */
public final class LanguageTest extends TreePathScanner<Void, Void> {
    private static final Path PROGRAM = Path.of("src/main/java/GuardCells.java");
    private static final int MOST_DEEP = 8;
    private static final int MOST_LINES = 60;
    private static final int MOST_PARAMETERS = 7;
    private static final int MOST_CLASSES = 12;
    private static final int MOST_FIELDS = 20;
    /** Of what rule 4 allows, what the program uses. */
    private static final Set<String> LIBRARY = Set.of(
            "java.lang.Math.max", "java.lang.Math.min", "java.lang.System.arraycopy", "java.util.Arrays.fill");

    /** A number other than 0, or a name that is looked at just ahead of it. */
    private static final Set<String> DIVISORS = Set.of("10", "b", "common");

    private final Trees trees;
    private final CompilationUnitTree unit;
    private final Map<Element, Set<Element>> calls = new HashMap<>();
    private int classes;

    private LanguageTest(Trees trees, CompilationUnitTree unit) {
        this.trees = trees;
        this.unit = unit;
    }

    public static void main(String[] args) throws IOException {
        JavaCompiler compiler = ToolProvider.getSystemJavaCompiler();
        try (StandardJavaFileManager files = compiler.getStandardFileManager(null, null, null)) {
            JavacTask task = (JavacTask) compiler.getTask(null, files, null, null, null, files.getJavaFileObjects(PROGRAM));
            CompilationUnitTree unit = task.parse().iterator().next();
            task.analyze();
            LanguageTest test = new LanguageTest(Trees.instance(task), unit);
            test.scan(unit, null);
            test.close();
        }
        Due.close();
    }

    private void close() {
        Due.holds("rule 11: the file has twelve classes at most", classes > 0 && classes <= MOST_CLASSES);
        int deepest = 0;
        for (Element method : calls.keySet()) {
            deepest = Math.max(deepest, depth(method, new LinkedHashSet<>()));
        }
        System.out.println("calls go " + deepest + " deep");
        Due.holds("rule 11: calls go at most eight deep", deepest > 1 && deepest <= MOST_DEEP);
    }

    /** How many calls stand open at once, this one too. */
    private int depth(Element method, Set<Element> open) {
        if (!open.add(method)) {
            Due.holds("rule 8: no recursion by " + method + ", which the program does without", false);
            return 0;
        }
        int below = 0;
        for (Element called : calls.getOrDefault(method, Set.of())) {
            below = Math.max(below, depth(called, open));
        }
        open.remove(method);
        return below + 1;
    }

    private Element element(Tree tree) {
        return trees.getElement(TreePath.getPath(unit, tree));
    }

    private long line(long place) {
        return unit.getLineMap().getLineNumber(place);
    }

    private void never(String rule, Tree tree) {
        long line = line(trees.getSourcePositions().getStartPosition(unit, tree));
        Due.holds(rule + ", line " + line + ": '" + tree + "'", false);
    }

    private boolean isProgram(Element method) {
        Element owner = method.getEnclosingElement();
        while (owner != null && owner.getKind() != ElementKind.PACKAGE) {
            if (owner.toString().equals("GuardCells")) {
                return true;
            }
            owner = owner.getEnclosingElement();
        }
        return false;
    }

    // ---- rules 1, 2, 5 and 11

    @Override
    public Void visitClass(ClassTree tree, Void none) {
        classes++;
        Element own = element(tree);
        boolean inside = own.getEnclosingElement().getKind() == ElementKind.CLASS;
        Set<Modifier> modifiers = tree.getModifiers().getFlags();
        Due.holds("rule 2: " + own + " is the class itself, or stands in it and is static",
                inside ? modifiers.contains(Modifier.STATIC) : own.toString().equals("GuardCells"));
        int fields = 0;
        for (Tree member : tree.getMembers()) {
            boolean constant = member instanceof VariableTree field && isStatic(field);
            fields += member instanceof VariableTree && !constant ? 1 : 0;
            Due.holds("rule 5: no initialiser block in " + own, member.getKind() != Tree.Kind.BLOCK);
            if (constant) {
                staticField((VariableTree) member);
            }
        }
        Due.holds("rule 11: " + own + " has twenty fields at most", fields <= MOST_FIELDS);
        return super.visitClass(tree, none);
    }

    private static boolean isStatic(VariableTree field) {
        return field.getModifiers().getFlags().contains(Modifier.STATIC);
    }

    private void staticField(VariableTree field) {
        Due.holds("rule 5: " + field.getName() + " is final", field.getModifiers().getFlags().contains(Modifier.FINAL));
        String type = field.getType().toString();
        boolean array = field.getInitializer() instanceof NewArrayTree written && written.getDimensions().isEmpty();
        Set<String> may = array ? Set.of("int[]", "long[]", "char[]", "byte[]") : Set.of("int", "long", "boolean", "char", "String");
        Due.holds("rule 5: the type of " + field.getName(), may.contains(type));
    }

    @Override
    public Void visitMethod(MethodTree tree, Void none) {
        Element own = element(tree);
        calls.computeIfAbsent(own, first -> new HashSet<>());
        SourcePositions places = trees.getSourcePositions();
        long lines = line(places.getEndPosition(unit, tree)) - line(places.getStartPosition(unit, tree)) + 1;
        Due.holds("rule 11: " + own + " has some sixty lines at most, not " + lines, lines <= MOST_LINES);
        Due.holds("rule 11: " + own + " has seven parameters at most", tree.getParameters().size() <= MOST_PARAMETERS);
        boolean open = !tree.getModifiers().getFlags().contains(Modifier.PRIVATE);
        Due.holds("rule 1: only the face is open, not " + own,
                !open || own.getEnclosingElement().toString().equals("GuardCells"));
        return super.visitMethod(tree, none);
    }

    // ---- rule 4, and who calls whom

    private void calls(Element called) {
        TreePath path = getCurrentPath();
        while (path != null && !(path.getLeaf() instanceof MethodTree)) {
            path = path.getParentPath();
        }
        if (path != null) {
            calls.computeIfAbsent(trees.getElement(path), first -> new HashSet<>()).add(called);
        }
    }

    @Override
    public Void visitMethodInvocation(MethodInvocationTree tree, Void none) {
        Element called = element(tree.getMethodSelect());
        // What every constructor does first is not written out.
        if (called.getKind() != ElementKind.CONSTRUCTOR) {
            String name = called.getEnclosingElement() + "." + called.getSimpleName();
            Due.holds("rule 4: the library has " + name, isProgram(called) || LIBRARY.contains(name));
            calls(called);
        }
        return super.visitMethodInvocation(tree, none);
    }

    @Override
    public Void visitNewClass(NewClassTree tree, Void none) {
        Element made = element(tree);
        Due.holds("rules 3 and 4: an object of the program's own, not " + made.getEnclosingElement(), isProgram(made));
        Due.holds("rule 2: no class without a name", tree.getClassBody() == null);
        calls(made);
        return super.visitNewClass(tree, none);
    }

    // ---- rules 2, 5 and 6

    private void assigned(ExpressionTree to) {
        String name = to.toString();
        int bracket = name.indexOf('[');
        String row = bracket < 0 ? name : name.substring(0, bracket);
        Due.holds("rule 5: " + row + " is never changed", !row.equals(row.toUpperCase()) || row.length() == 1);
    }

    @Override
    public Void visitAssignment(AssignmentTree tree, Void none) {
        assigned(tree.getVariable());
        return super.visitAssignment(tree, none);
    }

    @Override
    public Void visitCompoundAssignment(CompoundAssignmentTree tree, Void none) {
        assigned(tree.getVariable());
        return super.visitCompoundAssignment(tree, none);
    }

    @Override
    public Void visitUnary(UnaryTree tree, Void none) {
        if (tree.getKind().toString().contains("CREMENT")) {
            assigned(tree.getExpression());
        }
        return super.visitUnary(tree, none);
    }

    @Override
    public Void visitBinary(BinaryTree tree, Void none) {
        boolean divides = tree.getKind() == Tree.Kind.DIVIDE || tree.getKind() == Tree.Kind.REMAINDER;
        if (divides) {
            String by = tree.getRightOperand().toString();
            Due.holds("rule 7: divided by " + by, DIVISORS.contains(by));
        }
        return super.visitBinary(tree, none);
    }

    @Override
    public Void visitThrow(ThrowTree tree, Void none) {
        never("rule 6", tree);
        return super.visitThrow(tree, none);
    }

    @Override
    public Void visitTry(TryTree tree, Void none) {
        never("rule 6", tree);
        return super.visitTry(tree, none);
    }

    @Override
    public Void visitSynchronized(SynchronizedTree tree, Void none) {
        never("rule 6", tree);
        return super.visitSynchronized(tree, none);
    }

    @Override
    public Void visitAssert(AssertTree tree, Void none) {
        never("rule 6", tree);
        return super.visitAssert(tree, none);
    }

    @Override
    public Void visitLambdaExpression(LambdaExpressionTree tree, Void none) {
        never("rule 2", tree);
        return super.visitLambdaExpression(tree, none);
    }

    @Override
    public Void visitMemberReference(MemberReferenceTree tree, Void none) {
        never("rule 2", tree);
        return super.visitMemberReference(tree, none);
    }
}
