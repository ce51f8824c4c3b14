import com.sun.source.tree.AssertTree;
import com.sun.source.tree.ClassTree;
import com.sun.source.tree.CompilationUnitTree;
import com.sun.source.tree.ImportTree;
import com.sun.source.tree.LambdaExpressionTree;
import com.sun.source.tree.MemberReferenceTree;
import com.sun.source.tree.MethodInvocationTree;
import com.sun.source.tree.MethodTree;
import com.sun.source.tree.NewArrayTree;
import com.sun.source.tree.NewClassTree;
import com.sun.source.tree.SynchronizedTree;
import com.sun.source.tree.ThrowTree;
import com.sun.source.tree.Tree;
import com.sun.source.tree.TryTree;
import com.sun.source.tree.TypeCastTree;
import com.sun.source.util.JavacTask;
import com.sun.source.util.SourcePositions;
import com.sun.source.util.TreePathScanner;
import com.sun.source.util.Trees;
import java.io.IOException;
import java.nio.file.Files;
import java.nio.file.Path;
import java.util.HashMap;
import java.util.HashSet;
import java.util.List;
import java.util.Map;
import java.util.Set;
import javax.lang.model.element.Element;
import javax.lang.model.element.ElementKind;
import javax.lang.model.type.TypeMirror;
import javax.tools.JavaCompiler;
import javax.tools.StandardJavaFileManager;
import javax.tools.ToolProvider;

/** The rules of LANGUAGE.md that the compiler's own tree of the class can tell. */
public final class LanguageTest extends TreePathScanner<Void, Void> {
    private static final Path SOURCE = Path.of("src/main/java/StarPlates.java");
    private static final Set<String> LIBRARY = Set.of("java.lang.Math.abs", "java.lang.Math.max", "java.lang.Math.min",
        "java.lang.Math.floorDiv", "java.util.Arrays.fill", "java.lang.System.arraycopy", "java.lang.Object.<init>");
    private static final int LINES = 60, DEPTH = 7;

    private final Check check = new Check("LanguageTest");
    private final Trees trees;
    private final SourcePositions places;
    private final CompilationUnitTree unit;
    private final Map<Element, Set<Element>> calls = new HashMap<>();
    private Element inside = null;

    private LanguageTest(Trees trees, CompilationUnitTree unit) {
        this.trees = trees;
        this.unit = unit;
        places = trees.getSourcePositions();
    }

    public static void main(String[] args) throws IOException {
        JavaCompiler javac = ToolProvider.getSystemJavaCompiler();
        try (StandardJavaFileManager files = javac.getStandardFileManager(null, null, null)) {
            JavacTask task = (JavacTask) javac.getTask(null, files, null, List.of("-proc:none"), null, files.getJavaFileObjects(SOURCE));
            CompilationUnitTree unit = task.parse().iterator().next();
            task.analyze();
            LanguageTest test = new LanguageTest(Trees.instance(task), unit);
            test.text();
            test.scan(unit, null);
            test.depths();
            test.check.end();
        }
    }

    private void text() throws IOException {
        boolean plain = true;
        for (byte b : Files.readAllBytes(SOURCE)) plain &= b > 0;
        check.holds("the text has signs 1 to 127 alone", plain);
        check.holds("no package line", unit.getPackage() == null);
        check.due("classes at the top", unit.getTypeDecls().size(), 1);
    }

    private long line(long at) {
        return unit.getLineMap().getLineNumber(at);
    }

    private void never(Tree tree, String what) {
        check.holds("line " + line(places.getStartPosition(unit, tree)) + ": " + what, false);
    }

    private void depths() {
        for (Element method : calls.keySet()) check.holds(method + " goes at most " + DEPTH + " deep", depth(method, new HashSet<>()) <= DEPTH);
    }

    private int depth(Element method, Set<Element> open) {
        if (!open.add(method)) return DEPTH + 1;
        int most = 0;
        for (Element next : calls.getOrDefault(method, Set.of())) most = Math.max(most, depth(next, open));
        open.remove(method);
        return most + 1;
    }

    @Override
    public Void visitImport(ImportTree tree, Void none) {
        if (!tree.getQualifiedIdentifier().toString().equals("java.util.Arrays")) never(tree, "import");
        return super.visitImport(tree, none);
    }

    @Override
    public Void visitClass(ClassTree tree, Void none) {
        Tree around = getCurrentPath().getParentPath().getLeaf();
        if (!(around instanceof ClassTree) && !(around instanceof CompilationUnitTree)) never(tree, "a local or anonymous class");
        return super.visitClass(tree, none);
    }

    @Override
    public Void visitMethod(MethodTree tree, Void none) {
        Element before = inside;
        inside = trees.getElement(getCurrentPath());
        calls.computeIfAbsent(inside, m -> new HashSet<>());
        long start = places.getStartPosition(unit, tree);
        long end = places.getEndPosition(unit, tree);
        if (end >= 0) check.holds(tree.getName() + " has " + LINES + " lines at most", line(end) - line(start) < LINES);
        super.visitMethod(tree, none);
        inside = before;
        return null;
    }

    @Override
    public Void visitMethodInvocation(MethodInvocationTree tree, Void none) {
        Element called = trees.getElement(getCurrentPath());
        String owner = called.getEnclosingElement().toString();
        String name = owner + "." + called.getSimpleName();
        boolean own = owner.equals("StarPlates") || owner.startsWith("StarPlates.");
        check.holds(name + " is the class's own, or of the library's list", own || LIBRARY.contains(name));
        if (own && inside != null) calls.get(inside).add(called);
        if (name.equals("java.util.Arrays.fill") || name.equals("java.lang.System.arraycopy")) numbersAlone(tree);
        return super.visitMethodInvocation(tree, none);
    }

    /** The library's functions over rows take rows of numbers, and so none of booleans or objects. */
    private void numbersAlone(MethodInvocationTree tree) {
        for (Tree argument : tree.getArguments()) {
            TypeMirror type = trees.getTypeMirror(trees.getPath(unit, argument));
            String told = type.toString();
            if (told.endsWith("[]")) check.holds(tree + " is over numbers", told.equals("int[]") || told.equals("long[]"));
        }
    }

    @Override
    public Void visitNewClass(NewClassTree tree, Void none) {
        if (inside != null && inside.getKind() != ElementKind.CONSTRUCTOR) never(tree, "an object made outside a constructor");
        return super.visitNewClass(tree, none);
    }

    @Override
    public Void visitNewArray(NewArrayTree tree, Void none) {
        if (inside != null && inside.getKind() != ElementKind.CONSTRUCTOR) never(tree, "a row made outside a constructor");
        return super.visitNewArray(tree, none);
    }

    @Override
    public Void visitTypeCast(TypeCastTree tree, Void none) {
        String type = tree.getType().toString();
        if (!type.equals("int") && !type.equals("long")) never(tree, "a cast to " + type);
        return super.visitTypeCast(tree, none);
    }

    @Override
    public Void visitThrow(ThrowTree tree, Void none) {
        never(tree, "throw");
        return null;
    }

    @Override
    public Void visitTry(TryTree tree, Void none) {
        never(tree, "try");
        return null;
    }

    @Override
    public Void visitSynchronized(SynchronizedTree tree, Void none) {
        never(tree, "synchronized");
        return null;
    }

    @Override
    public Void visitAssert(AssertTree tree, Void none) {
        never(tree, "assert");
        return null;
    }

    @Override
    public Void visitLambdaExpression(LambdaExpressionTree tree, Void none) {
        never(tree, "a lambda");
        return null;
    }

    @Override
    public Void visitMemberReference(MemberReferenceTree tree, Void none) {
        never(tree, "a method reference");
        return null;
    }
}
