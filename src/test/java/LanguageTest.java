import com.sun.source.tree.ArrayAccessTree;
import com.sun.source.tree.AssertTree;
import com.sun.source.tree.AssignmentTree;
import com.sun.source.tree.ClassTree;
import com.sun.source.tree.CompilationUnitTree;
import com.sun.source.tree.CompoundAssignmentTree;
import com.sun.source.tree.DoWhileLoopTree;
import com.sun.source.tree.ForLoopTree;
import com.sun.source.tree.ImportTree;
import com.sun.source.tree.LambdaExpressionTree;
import com.sun.source.tree.MemberReferenceTree;
import com.sun.source.tree.MemberSelectTree;
import com.sun.source.tree.MethodInvocationTree;
import com.sun.source.tree.MethodTree;
import com.sun.source.tree.NewArrayTree;
import com.sun.source.tree.NewClassTree;
import com.sun.source.tree.SynchronizedTree;
import com.sun.source.tree.ThrowTree;
import com.sun.source.tree.Tree;
import com.sun.source.tree.TryTree;
import com.sun.source.tree.TypeCastTree;
import com.sun.source.tree.UnaryTree;
import com.sun.source.tree.VariableTree;
import com.sun.source.tree.WhileLoopTree;
import com.sun.source.util.JavacTask;
import com.sun.source.util.SourcePositions;
import com.sun.source.util.TreePathScanner;
import com.sun.source.util.Trees;
import java.io.IOException;
import java.nio.file.Files;
import java.nio.file.Path;
import java.util.HashMap;
import java.util.HashSet;
import java.util.List;
import java.util.Map;
import java.util.Set;
import javax.lang.model.element.Element;
import javax.lang.model.element.ElementKind;
import javax.lang.model.element.Modifier;
import javax.lang.model.type.TypeMirror;
import javax.tools.JavaCompiler;
import javax.tools.StandardJavaFileManager;
import javax.tools.ToolProvider;

/** The rules of LANGUAGE.md that the compiler's own tree of the class can tell. */
public final class LanguageTest extends TreePathScanner<Void, Void> {
    private static final Path SOURCE = Path.of("src/main/java/StarPlates.java");
    private static final Set<String> LIBRARY = Set.of("java.lang.Math.abs", "java.lang.Math.max", "java.lang.Math.min",
        "java.lang.Math.floorDiv", "java.util.Arrays.fill", "java.lang.System.arraycopy", "java.lang.Object.<init>");
    /** The library's list has no constants; this one stands in the document's face. */
    private static final String LIBRARY_CONSTANT = "java.lang.Long.MIN_VALUE";
    private static final int LINES = 60, DEPTH = 7;

    private final Check check = new Check("LanguageTest");
    private final Trees trees;
    private final SourcePositions places;
    private final CompilationUnitTree unit;
    private final Map<Element, Set<Element>> calls = new HashMap<>();
    private Element inside = null;

    private LanguageTest(Trees trees, CompilationUnitTree unit) {
        this.trees = trees;
        this.unit = unit;
        places = trees.getSourcePositions();
    }

    public static void main(String[] args) throws IOException {
        JavaCompiler javac = ToolProvider.getSystemJavaCompiler();
        try (StandardJavaFileManager files = javac.getStandardFileManager(null, null, null)) {
            JavacTask task = (JavacTask) javac.getTask(null, files, null, List.of("-proc:none"), null, files.getJavaFileObjects(SOURCE));
            CompilationUnitTree unit = task.parse().iterator().next();
            task.analyze();
            LanguageTest test = new LanguageTest(Trees.instance(task), unit);
            test.text();
            test.scan(unit, null);
            test.depths();
            test.check.end();
        }
    }

    private void text() throws IOException {
        boolean plain = true;
        for (byte b : Files.readAllBytes(SOURCE)) plain &= b > 0;
        check.holds("the text has signs 1 to 127 alone", plain);
        check.holds("no package line", unit.getPackage() == null);
        check.due("classes at the top", unit.getTypeDecls().size(), 1);
    }

    private long line(long at) {
        return unit.getLineMap().getLineNumber(at);
    }

    private void never(Tree tree, String what) {
        check.holds("line " + line(places.getStartPosition(unit, tree)) + ": " + what, false);
    }

    private void depths() {
        for (Element method : calls.keySet()) check.holds(method + " goes at most " + DEPTH + " deep", depth(method, new HashSet<>()) <= DEPTH);
    }

    private int depth(Element method, Set<Element> open) {
        if (!open.add(method)) return DEPTH + 1;
        int most = 0;
        for (Element next : calls.getOrDefault(method, Set.of())) most = Math.max(most, depth(next, open));
        open.remove(method);
        return most + 1;
    }

    @Override
    public Void visitImport(ImportTree tree, Void none) {
        if (!tree.getQualifiedIdentifier().toString().equals("java.util.Arrays")) never(tree, "import");
        return super.visitImport(tree, none);
    }

    @Override
    public Void visitClass(ClassTree tree, Void none) {
        Tree around = getCurrentPath().getParentPath().getLeaf();
        if (!(around instanceof ClassTree) && !(around instanceof CompilationUnitTree)) never(tree, "a local or anonymous class");
        return super.visitClass(tree, none);
    }

    @Override
    public Void visitMethod(MethodTree tree, Void none) {
        Element before = inside;
        inside = trees.getElement(getCurrentPath());
        calls.computeIfAbsent(inside, m -> new HashSet<>());
        long start = places.getStartPosition(unit, tree);
        long end = places.getEndPosition(unit, tree);
        if (end >= 0) check.holds(tree.getName() + " has " + LINES + " lines at most", line(end) - line(start) < LINES);
        super.visitMethod(tree, none);
        inside = before;
        return null;
    }

    @Override
    public Void visitMethodInvocation(MethodInvocationTree tree, Void none) {
        Element called = trees.getElement(getCurrentPath());
        String owner = called.getEnclosingElement().toString();
        String name = owner + "." + called.getSimpleName();
        boolean own = owner.equals("StarPlates") || owner.startsWith("StarPlates.");
        check.holds(name + " is the class's own, or of the library's list", own || LIBRARY.contains(name));
        if (own && inside != null) calls.get(inside).add(called);
        if (name.equals("java.util.Arrays.fill") || name.equals("java.lang.System.arraycopy")) numbersAlone(tree);
        return super.visitMethodInvocation(tree, none);
    }

    @Override
    public Void visitMemberSelect(MemberSelectTree tree, Void none) {
        Element field = trees.getElement(getCurrentPath());
        if (field != null && field.getKind() == ElementKind.FIELD && field.getEnclosingElement() != null) {
            String owner = field.getEnclosingElement().toString();
            String name = owner + "." + field.getSimpleName();
            // the length of a row has no class that it belongs to
            if (owner.startsWith("java.")) check.holds(name + " is of the document's face", name.equals(LIBRARY_CONSTANT));
        }
        return super.visitMemberSelect(tree, none);
    }

    /** The library's functions over rows take rows of numbers, and so none of booleans or objects. */
    private void numbersAlone(MethodInvocationTree tree) {
        for (Tree argument : tree.getArguments()) {
            TypeMirror type = trees.getTypeMirror(trees.getPath(unit, argument));
            String told = type.toString();
            if (told.endsWith("[]")) check.holds(tree + " is over numbers", told.equals("int[]") || told.equals("long[]"));
        }
    }

    /** Rules 3 and 5: the types that the class needs are few, and what is static is a constant. */
    @Override
    public Void visitVariable(VariableTree tree, Void none) {
        Element element = trees.getElement(getCurrentPath());
        String type = element.asType().toString();
        check.holds(tree.getName() + " is of a type of the rules: " + type, type.matches("(int|long|boolean|StarPlates\\.\\w+)(\\[\\])?"));
        if (element.getModifiers().contains(Modifier.STATIC)) {
            check.holds(tree.getName() + " is final", element.getModifiers().contains(Modifier.FINAL));
            check.holds(tree.getName() + " is a number or a row of ints", type.equals("int") || type.equals("long") || type.equals("int[]"));
        }
        return super.visitVariable(tree, none);
    }

    /** A static row is never changed. */
    private void changes(Tree target) {
        if (!(target instanceof ArrayAccessTree row)) return;
        Element changed = trees.getElement(trees.getPath(unit, row.getExpression()));
        if (changed != null && changed.getModifiers().contains(Modifier.STATIC)) never(target, "a static row is changed");
    }

    @Override
    public Void visitAssignment(AssignmentTree tree, Void none) {
        changes(tree.getVariable());
        return super.visitAssignment(tree, none);
    }

    @Override
    public Void visitCompoundAssignment(CompoundAssignmentTree tree, Void none) {
        changes(tree.getVariable());
        return super.visitCompoundAssignment(tree, none);
    }

    @Override
    public Void visitUnary(UnaryTree tree, Void none) {
        boolean isStep = tree.getKind().name().endsWith("CREMENT");
        if (isStep) changes(tree.getExpression());
        return super.visitUnary(tree, none);
    }

    /** Rule 9: a loop of this class counts, and its own line shows against what. */
    @Override
    public Void visitForLoop(ForLoopTree tree, Void none) {
        if (tree.getCondition() == null || tree.getUpdate().size() != 1) never(tree, "a loop without a bound or a step");
        return super.visitForLoop(tree, none);
    }

    @Override
    public Void visitWhileLoop(WhileLoopTree tree, Void none) {
        never(tree, "while");
        return super.visitWhileLoop(tree, none);
    }

    @Override
    public Void visitDoWhileLoop(DoWhileLoopTree tree, Void none) {
        never(tree, "do");
        return super.visitDoWhileLoop(tree, none);
    }

    @Override
    public Void visitNewClass(NewClassTree tree, Void none) {
        if (inside != null && inside.getKind() != ElementKind.CONSTRUCTOR) never(tree, "an object made outside a constructor");
        return super.visitNewClass(tree, none);
    }

    @Override
    public Void visitNewArray(NewArrayTree tree, Void none) {
        if (inside != null && inside.getKind() != ElementKind.CONSTRUCTOR) never(tree, "a row made outside a constructor");
        return super.visitNewArray(tree, none);
    }

    @Override
    public Void visitTypeCast(TypeCastTree tree, Void none) {
        String type = tree.getType().toString();
        if (!type.equals("int") && !type.equals("long")) never(tree, "a cast to " + type);
        return super.visitTypeCast(tree, none);
    }

    @Override
    public Void visitThrow(ThrowTree tree, Void none) {
        never(tree, "throw");
        return null;
    }

    @Override
    public Void visitTry(TryTree tree, Void none) {
        never(tree, "try");
        return null;
    }

    @Override
    public Void visitSynchronized(SynchronizedTree tree, Void none) {
        never(tree, "synchronized");
        return null;
    }

    @Override
    public Void visitAssert(AssertTree tree, Void none) {
        never(tree, "assert");
        return null;
    }

    @Override
    public Void visitLambdaExpression(LambdaExpressionTree tree, Void none) {
        never(tree, "a lambda");
        return null;
    }

    @Override
    public Void visitMemberReference(MemberReferenceTree tree, Void none) {
        never(tree, "a method reference");
        return null;
    }
}
