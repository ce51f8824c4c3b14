import com.sun.source.tree.BinaryTree;
import com.sun.source.tree.BlockTree;
import com.sun.source.tree.CompilationUnitTree;
import com.sun.source.tree.ConditionalExpressionTree;
import com.sun.source.tree.ExpressionStatementTree;
import com.sun.source.tree.IdentifierTree;
import com.sun.source.tree.IfTree;
import com.sun.source.tree.LiteralTree;
import com.sun.source.tree.MethodTree;
import com.sun.source.tree.ReturnTree;
import com.sun.source.tree.StatementTree;
import com.sun.source.tree.Tree;
import com.sun.source.tree.TypeCastTree;
import com.sun.source.tree.UnaryTree;
import com.sun.source.util.JavacTask;
import com.sun.source.util.SourcePositions;
import com.sun.source.util.TreeScanner;
import com.sun.source.util.Trees;
import java.io.File;
import java.io.IOException;
import java.nio.file.Files;
import java.nio.file.Path;
import java.util.ArrayList;
import java.util.List;
import java.util.Map;
import java.util.concurrent.ExecutorService;
import java.util.concurrent.Executors;
import java.util.concurrent.Future;
import java.util.concurrent.TimeUnit;
import javax.tools.JavaCompiler;
import javax.tools.StandardJavaFileManager;
import javax.tools.ToolProvider;

/**
 * Breaks the class by one small change at a time, and tells which changes no test finds:
 *
 *     java tools/Mutants.java PromisesTest [OracleTest ..]
 *
 * It is not part of .ci/run: some changes change no answer, and somebody has to read those that are left.
 */
public final class Mutants extends TreeScanner<Void, Void> {
    private static final Path SOURCE = Path.of("src/main/java/StarPlates.java"), OUT = Path.of("build/mutants");
    private static final List<String> REFUSALS = List.of("UNKNOWN", "OUTSIDE", "STATE", "FULL", "NONE", "MISSING", "INDEX", "SIZE", "SORT");
    private static final Map<Tree.Kind, List<String>> OTHERS = Map.ofEntries(
        Map.entry(Tree.Kind.LESS_THAN, List.of("<=", ">=")), Map.entry(Tree.Kind.LESS_THAN_EQUAL, List.of("<", ">")),
        Map.entry(Tree.Kind.GREATER_THAN, List.of(">=", "<=")), Map.entry(Tree.Kind.GREATER_THAN_EQUAL, List.of(">", "<")),
        Map.entry(Tree.Kind.EQUAL_TO, List.of("!=")), Map.entry(Tree.Kind.NOT_EQUAL_TO, List.of("==")),
        Map.entry(Tree.Kind.PLUS, List.of("-")), Map.entry(Tree.Kind.MINUS, List.of("+")), Map.entry(Tree.Kind.MULTIPLY, List.of("+", "/")),
        Map.entry(Tree.Kind.DIVIDE, List.of("*")), Map.entry(Tree.Kind.REMAINDER, List.of("/")), Map.entry(Tree.Kind.LEFT_SHIFT, List.of(">>")),
        Map.entry(Tree.Kind.RIGHT_SHIFT, List.of("<<")), Map.entry(Tree.Kind.UNSIGNED_RIGHT_SHIFT, List.of(">>")),
        Map.entry(Tree.Kind.AND, List.of("|")), Map.entry(Tree.Kind.OR, List.of("&", "^")),
        Map.entry(Tree.Kind.CONDITIONAL_AND, List.of("||")), Map.entry(Tree.Kind.CONDITIONAL_OR, List.of("&&")));

    private record Mutant(long line, String change, String text) { }

    private final String text;
    private final CompilationUnitTree unit;
    private final SourcePositions places;
    private final List<Mutant> mutants = new ArrayList<>();

    private Mutants(String text, CompilationUnitTree unit, SourcePositions places) {
        this.text = text;
        this.unit = unit;
        this.places = places;
    }

    public static void main(String[] args) throws Exception {
        List<String> tests = args.length == 0 ? List.of("PromisesTest") : List.of(args);
        String text = Files.readString(SOURCE);
        Files.createDirectories(OUT.resolve("tests"));
        List<String> files = new ArrayList<>(List.of("-d", OUT.resolve("tests").toString(), SOURCE.toString()));
        for (File file : new File("src/test/java").listFiles()) files.add(file.getPath());
        if (ToolProvider.getSystemJavaCompiler().run(null, null, null, files.toArray(new String[0])) != 0) System.exit(1);
        List<Mutant> mutants = find(text);
        ExecutorService pool = Executors.newFixedThreadPool(Runtime.getRuntime().availableProcessors());
        List<Future<String>> ends = new ArrayList<>();
        for (int i = 0; i < mutants.size(); i++) {
            int number = i;
            ends.add(pool.submit(() -> end(mutants.get(number), number, tests)));
        }
        int lived = 0;
        int unborn = 0;
        for (int i = 0; i < mutants.size(); i++) {
            String end = ends.get(i).get();
            if (end.equals("unborn")) unborn++;
            if (!end.equals("lived")) continue;
            lived++;
            System.out.println("line " + mutants.get(i).line + ": " + mutants.get(i).change);
        }
        pool.shutdown();
        System.out.println(mutants.size() + " changes, " + unborn + " do not compile, " + lived + " are not found");
    }

    private static List<Mutant> find(String text) throws IOException {
        JavaCompiler javac = ToolProvider.getSystemJavaCompiler();
        try (StandardJavaFileManager files = javac.getStandardFileManager(null, null, null)) {
            JavacTask task = (JavacTask) javac.getTask(null, files, null, List.of("-proc:none"), null, files.getJavaFileObjects(SOURCE));
            CompilationUnitTree unit = task.parse().iterator().next();
            Mutants scanner = new Mutants(text, unit, Trees.instance(task).getSourcePositions());
            scanner.scan(unit, null);
            return scanner.mutants;
        }
    }

    private static String end(Mutant mutant, int number, List<String> tests) throws IOException, InterruptedException {
        Path dir = OUT.resolve("m" + number);
        Files.createDirectories(dir);
        Path source = dir.resolve("StarPlates.java");
        Files.writeString(source, mutant.text);
        JavaCompiler javac = ToolProvider.getSystemJavaCompiler();
        int code = javac.run(null, java.io.OutputStream.nullOutputStream(), java.io.OutputStream.nullOutputStream(), "-nowarn", "-d", dir.toString(), source.toString());
        String end = code != 0 ? "unborn" : "lived";
        for (String test : tests) {
            if (!end.equals("lived")) break;
            Process run = new ProcessBuilder("java", "-XX:TieredStopAtLevel=1", "-XX:+UseSerialGC", "-cp",
                dir + File.pathSeparator + OUT.resolve("tests"), test).redirectErrorStream(true).redirectOutput(dir.resolve("out").toFile()).start();
            if (!run.waitFor(120, TimeUnit.SECONDS)) run.destroyForcibly();
            if (run.waitFor() != 0) end = "found";
        }
        for (File file : dir.toFile().listFiles()) file.delete();
        Files.delete(dir);
        return end;
    }

    private int start(Tree tree) {
        return (int) places.getStartPosition(unit, tree);
    }

    private int end(Tree tree) {
        return (int) places.getEndPosition(unit, tree);
    }

    private String of(Tree tree) {
        return text.substring(start(tree), end(tree));
    }

    private void replace(int from, int to, String by) {
        String was = text.substring(from, to).replaceAll("\\s+", " ");
        mutants.add(new Mutant(unit.getLineMap().getLineNumber(from), was + "  ->  " + by.replaceAll("\\s+", " "), text.substring(0, from) + by + text.substring(to)));
    }

    private void replace(Tree tree, String by) {
        replace(start(tree), end(tree), by);
    }

    @Override
    public Void visitBinary(BinaryTree tree, Void none) {
        int from = end(tree.getLeftOperand());
        int to = start(tree.getRightOperand());
        for (String other : OTHERS.getOrDefault(tree.getKind(), List.of())) {
            String between = text.substring(from, to);
            String sign = between.replaceAll("[\\s()]", "");
            int at = text.indexOf(sign, from);
            mutants.add(new Mutant(unit.getLineMap().getLineNumber(at), of(tree).replaceAll("\\s+", " ") + "  by  " + other,
                text.substring(0, at) + other + text.substring(at + sign.length())));
        }
        return super.visitBinary(tree, none);
    }

    @Override
    public Void visitLiteral(LiteralTree tree, Void none) {
        if (tree.getValue() instanceof Integer v) {
            replace(tree, "(" + (v + 1) + ")");
            replace(tree, "(" + (v - 1) + ")");
        }
        if (tree.getValue() instanceof Boolean v) replace(tree, String.valueOf(!v));
        return super.visitLiteral(tree, none);
    }

    @Override
    public Void visitIdentifier(IdentifierTree tree, Void none) {
        String name = tree.getName().toString();
        if (REFUSALS.contains(name)) {
            for (String other : REFUSALS) if (!other.equals(name)) replace(tree, other);
        } else if (name.matches("[A-Z_]+")) {
            replace(tree, "(" + name + " + 1)");
            replace(tree, "(" + name + " - 1)");
        }
        return super.visitIdentifier(tree, none);
    }

    @Override
    public Void visitUnary(UnaryTree tree, Void none) {
        if (tree.getKind() == Tree.Kind.LOGICAL_COMPLEMENT || tree.getKind() == Tree.Kind.UNARY_MINUS) replace(tree, of(tree.getExpression()));
        return super.visitUnary(tree, none);
    }

    @Override
    public Void visitTypeCast(TypeCastTree tree, Void none) {
        replace(tree, of(tree.getExpression()));
        if (of(tree.getType()).equals("long")) replace(tree.getType(), "int");
        return super.visitTypeCast(tree, none);
    }

    @Override
    public Void visitIf(IfTree tree, Void none) {
        replace(tree.getCondition(), "(" + of(tree.getCondition()) + " || System.nanoTime() != 0)");
        replace(tree.getCondition(), "(" + of(tree.getCondition()) + " && System.nanoTime() == 0)");
        return super.visitIf(tree, none);
    }

    @Override
    public Void visitConditionalExpression(ConditionalExpressionTree tree, Void none) {
        replace(tree, "(" + of(tree.getCondition()) + " ? " + of(tree.getFalseExpression()) + " : " + of(tree.getTrueExpression()) + ")");
        return super.visitConditionalExpression(tree, none);
    }

    @Override
    public Void visitExpressionStatement(ExpressionStatementTree tree, Void none) {
        // the last part of a for has no semicolon of its own
        if (of(tree).endsWith(";")) replace(tree, ";");
        return super.visitExpressionStatement(tree, none);
    }

    @Override
    public Void visitReturn(ReturnTree tree, Void none) {
        if (tree.getExpression() != null && !of(tree.getExpression()).matches("true|false|[A-Z]+")) {
            replace(tree.getExpression(), "(" + of(tree.getExpression()) + ") + 1");
        }
        return super.visitReturn(tree, none);
    }

    @Override
    public Void visitMethod(MethodTree tree, Void none) {
        for (int i = 0; i + 1 < tree.getParameters().size(); i++) {
            // two parameters of one type under each other's names
            Tree one = tree.getParameters().get(i).getType();
            Tree next = tree.getParameters().get(i + 1).getType();
            if (!of(one).equals(of(next))) continue;
            String a = tree.getParameters().get(i).getName().toString();
            String b = tree.getParameters().get(i + 1).getName().toString();
            replace(start(tree.getParameters().get(i)), end(tree.getParameters().get(i + 1)), of(one) + " " + b + ", " + of(next) + " " + a);
        }
        return super.visitMethod(tree, none);
    }

    @Override
    public Void visitBlock(BlockTree tree, Void none) {
        List<? extends StatementTree> all = tree.getStatements();
        for (int i = 0; i + 1 < all.size(); i++) {
            // which of two refusals comes first
            if (!(all.get(i) instanceof IfTree) || !(all.get(i + 1) instanceof IfTree)) continue;
            replace(start(all.get(i)), end(all.get(i + 1)), of(all.get(i + 1)) + " " + of(all.get(i)));
        }
        return super.visitBlock(tree, none);
    }
}
