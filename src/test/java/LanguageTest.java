import com.sun.source.tree.ArrayAccessTree;
import com.sun.source.tree.AssertTree;
import com.sun.source.tree.BinaryTree;
import com.sun.source.tree.BlockTree;
import com.sun.source.tree.CatchTree;
import com.sun.source.tree.ClassTree;
import com.sun.source.tree.CompilationUnitTree;
import com.sun.source.tree.DoWhileLoopTree;
import com.sun.source.tree.EnhancedForLoopTree;
import com.sun.source.tree.ExpressionTree;
import com.sun.source.tree.ForLoopTree;
import com.sun.source.tree.IdentifierTree;
import com.sun.source.tree.ImportTree;
import com.sun.source.tree.LambdaExpressionTree;
import com.sun.source.tree.LineMap;
import com.sun.source.tree.LiteralTree;
import com.sun.source.tree.MemberReferenceTree;
import com.sun.source.tree.MemberSelectTree;
import com.sun.source.tree.MethodInvocationTree;
import com.sun.source.tree.MethodTree;
import com.sun.source.tree.NewArrayTree;
import com.sun.source.tree.NewClassTree;
import com.sun.source.tree.SynchronizedTree;
import com.sun.source.tree.ThrowTree;
import com.sun.source.tree.Tree;
import com.sun.source.tree.TryTree;
import com.sun.source.tree.TypeCastTree;
import com.sun.source.tree.VariableTree;
import com.sun.source.tree.WhileLoopTree;
import com.sun.source.util.JavacTask;
import com.sun.source.util.TreeScanner;
import com.sun.source.util.Trees;
import java.io.File;
import java.nio.file.Files;
import java.nio.file.Path;
import java.util.ArrayList;
import java.util.List;
import java.util.Map;
import java.util.Set;
import java.util.TreeMap;
import java.util.TreeSet;
import javax.lang.model.element.Modifier;
import javax.tools.JavaCompiler;
import javax.tools.StandardJavaFileManager;
import javax.tools.ToolProvider;

/** What of shared/LANGUAGE.md can be read from the source: EntryMasters needs little of it. */
public final class LanguageTest {
    private static final int MOST_LINES = 60;
    private static final int MOST_PARAMETERS = 7;
    private static final int DEEPEST = 8;
    private static final Set<String> MAY_BE_THROWN = Set.of(
            "IndexOutOfBoundsException", "IllegalArgumentException", "IllegalStateException");
    private static final Set<String> LIBRARY = Set.of("Arrays.fill");
    private static final Set<String> TYPES = Set.of("int", "boolean", "int[]", "boolean[]");
    private static final int MOST_CLASSES = 12;
    private static final String CONSTANT = "[A-Z][A-Z_]*|[1-9][0-9]*";

    /** For each method's name, the names that it calls. */
    private final Map<String, Set<String>> calls = new TreeMap<>();
    private final Set<String> methods = new TreeSet<>();
    private final Set<String> classes = new TreeSet<>();
    /** For each method, what it compares with a bound, or asks has(..) for. */
    private final Map<String, Set<String>> lookedAt = new TreeMap<>();
    /** For each method, the indexes that it uses. */
    private final Map<String, Set<String>> indexes = new TreeMap<>();
    private final Set<String> types = new TreeSet<>();
    private final Set<String> qualifiers = new TreeSet<>();

    public static void main(String[] args) throws Exception {
        new LanguageTest().go(args.length > 0 ? args[0] : "src/main/java/EntryMasters.java");
        Check.finish("LanguageTest");
    }

    private void go(String path) throws Exception {
        JavaCompiler compiler = ToolProvider.getSystemJavaCompiler();
        try (StandardJavaFileManager files = compiler.getStandardFileManager(null, null, null)) {
            var source = files.getJavaFileObjects(new File(path));
            JavacTask task = (JavacTask) compiler.getTask(null, files, null, null, null, source);
            for (CompilationUnitTree unit : task.parse()) {
                Check.due("a package line", unit.getPackageName() == null, true);
                Check.due("classes on top", unit.getTypeDecls().size(), 1);
                new Reader(unit, Trees.instance(task)).scan(unit, "");
            }
        }
        wholeFile(path);
        rowsAreLookedAt();
        Check.part("rule 11, depth");
        for (String method : methods) {
            int depth = depth(method, List.of());
            Check.due(method + " calls " + depth + " deep", depth <= DEEPEST, true);
        }
    }

    private void wholeFile(String path) throws Exception {
        Check.part("rule 4, signs");
        for (byte sign : Files.readAllBytes(Path.of(path))) {
            if (sign <= 0) {
                Check.due("a sign", sign, 1);
            }
        }
        Check.part("rule 11, classes");
        Check.due(classes.size() + " classes", classes.size() <= MOST_CLASSES, true);
        Check.part("rule 3, types");
        for (String type : types) {
            Check.due(type, TYPES.contains(type) || classes.contains(type), true);
        }
        Check.part("rules 4 and 13, library");
        for (String qualifier : qualifiers) {
            Check.due(qualifier, qualifier.equals("Arrays") || classes.contains(qualifier), true);
        }
    }

    private void rowsAreLookedAt() {
        Check.part("rule 7, indexes");
        for (Map.Entry<String, Set<String>> each : indexes.entrySet()) {
            for (String index : each.getValue()) {
                boolean isLookedAt = lookedAt.getOrDefault(each.getKey(), Set.of()).contains(index);
                Check.due(each.getKey() + "[" + index + "]", isLookedAt || index.matches(CONSTANT), true);
            }
        }
    }

    private static void put(Map<String, Set<String>> map, String in, String what) {
        map.computeIfAbsent(in, key -> new TreeSet<>()).add(what);
    }

    /** By names alone, so methods of one name count as one; deeper than the truth, never less. */
    private int depth(String method, List<String> open) {
        Check.due("rule 8: " + method + " calls itself by " + open, open.contains(method), false);
        if (open.contains(method)) {
            return 1000;
        }
        List<String> inside = new ArrayList<>(open);
        inside.add(method);
        int deepest = 0;
        for (String called : calls.getOrDefault(method, Set.of())) {
            if (methods.contains(called)) {
                deepest = Math.max(deepest, depth(called, inside));
            }
        }
        return deepest + 1;
    }

    private final class Reader extends TreeScanner<Void, String> {
        private final CompilationUnitTree unit;
        private final Trees trees;

        Reader(CompilationUnitTree unit, Trees trees) {
            this.unit = unit;
            this.trees = trees;
        }

        private long line(Tree tree, boolean isEnd) {
            var places = trees.getSourcePositions();
            LineMap lines = unit.getLineMap();
            long place = isEnd ? places.getEndPosition(unit, tree) : places.getStartPosition(unit, tree);
            return lines.getLineNumber(place);
        }

        private void refuse(Tree tree, String what) {
            Check.due("line " + line(tree, false) + ": " + what, true, false);
        }

        @Override
        public Void visitImport(ImportTree tree, String in) {
            Check.due("import", tree.getQualifiedIdentifier().toString(), "java.util.Arrays");
            return super.visitImport(tree, in);
        }

        @Override
        public Void visitMethod(MethodTree tree, String in) {
            String name = tree.getName().toString();
            long lines = line(tree, true) - line(tree, false) + 1;
            Check.due(name + " has " + lines + " lines", lines <= MOST_LINES, true);
            Check.due(name + "'s parameters", tree.getParameters().size() <= MOST_PARAMETERS, true);
            if (!name.equals("<init>")) {
                methods.add(name);
                typeIs(tree.getReturnType());
            }
            return super.visitMethod(tree, name);
        }

        private void typeIs(Tree type) {
            String text = type == null ? "none written" : type.toString();
            if (!text.equals("void")) {
                types.add(text);
            }
        }

        @Override
        public Void visitClass(ClassTree tree, String in) {
            Check.due("rule 2: " + tree.getSimpleName() + " in " + in, in.equals(""), true);
            classes.add(tree.getSimpleName().toString());
            return super.visitClass(tree, in);
        }

        @Override
        public Void visitBlock(BlockTree tree, String in) {
            Check.due("rule 5: static block", tree.isStatic(), false);
            return super.visitBlock(tree, in);
        }

        @Override
        public Void visitVariable(VariableTree tree, String in) {
            String name = tree.getName().toString();
            typeIs(tree.getType());
            Set<Modifier> how = tree.getModifiers().getFlags();
            if (how.contains(Modifier.STATIC)) {
                Check.due("rule 5: " + name + " is final", how.contains(Modifier.FINAL), true);
                Check.due("rule 5: " + name, tree.getType().toString(), "int");
            }
            return super.visitVariable(tree, in);
        }

        @Override
        public Void visitBinary(BinaryTree tree, String in) {
            String left = tree.getLeftOperand().toString();
            String right = tree.getRightOperand().toString();
            switch (tree.getKind()) {
                case DIVIDE, REMAINDER -> Check.due("rule 7: by " + right, right.matches(CONSTANT), true);
                case LESS_THAN, GREATER_THAN_EQUAL -> put(lookedAt, in, left);
                case PLUS -> Check.due("rule 10: " + tree, isText(tree), false);
                default -> { }
            }
            return super.visitBinary(tree, in);
        }

        private boolean isText(BinaryTree tree) {
            return isText(tree.getLeftOperand()) || isText(tree.getRightOperand());
        }

        private boolean isText(ExpressionTree tree) {
            return tree instanceof LiteralTree literal && literal.getValue() instanceof String;
        }

        @Override
        public Void visitArrayAccess(ArrayAccessTree tree, String in) {
            put(indexes, in, tree.getIndex().toString());
            return super.visitArrayAccess(tree, in);
        }

        @Override
        public Void visitMemberSelect(MemberSelectTree tree, String in) {
            if (tree.getExpression() instanceof IdentifierTree name
                    && Character.isUpperCase(name.getName().charAt(0))) {
                qualifiers.add(name.getName().toString());
            }
            return super.visitMemberSelect(tree, in);
        }

        // rule 9: a counter goes up or down by one against a bound

        @Override
        public Void visitForLoop(ForLoopTree tree, String in) {
            String condition = String.valueOf(tree.getCondition());
            String update = tree.getUpdate().toString();
            Check.due("rule 9: line " + line(tree, false), update.matches("\\w+\\+\\+;?"), true);
            String counter = update.replaceAll("\\W", "");
            boolean isBound = condition.matches("(.*&& )?" + counter + " < [A-Z_]+( &&.*)?");
            Check.due("rule 9: line " + line(tree, false) + ": " + condition, isBound, true);
            Check.due("rule 9: either", condition.contains("||"), false);
            return super.visitForLoop(tree, in);
        }

        @Override
        public Void visitWhileLoop(WhileLoopTree tree, String in) {
            String condition = tree.getCondition().toString().replaceAll("^\\(|\\)$", "");
            String counter = condition.split(" ", 2)[0];
            boolean isBound = condition.startsWith(counter + " > 0 &&") && !condition.contains("||");
            Check.due("rule 9: line " + line(tree, false) + ": " + condition, isBound, true);
            Check.due("rule 9: goes down", tree.getStatement().toString().contains(counter + "--;"), true);
            return super.visitWhileLoop(tree, in);
        }

        @Override
        public Void visitDoWhileLoop(DoWhileLoopTree tree, String in) {
            refuse(tree, "do");
            return super.visitDoWhileLoop(tree, in);
        }

        @Override
        public Void visitEnhancedForLoop(EnhancedForLoopTree tree, String in) {
            refuse(tree, "for over a row");
            return super.visitEnhancedForLoop(tree, in);
        }

        @Override
        public Void visitAssert(AssertTree tree, String in) {
            refuse(tree, "assert");
            return super.visitAssert(tree, in);
        }

        @Override
        public Void visitMethodInvocation(MethodInvocationTree tree, String in) {
            String called = tree.getMethodSelect().toString();
            String name = called.substring(called.lastIndexOf('.') + 1);
            if (called.startsWith("Arrays.") || called.startsWith("System.") || called.startsWith("Math.")) {
                Check.due("library's " + called, LIBRARY.contains(called), true);
            } else if (!name.equals("super")) {
                if (name.equals("has")) {
                    put(lookedAt, in, tree.getArguments().get(0).toString());
                }
                calls.computeIfAbsent(in, key -> new TreeSet<>()).add(name);
            }
            return super.visitMethodInvocation(tree, in);
        }

        @Override
        public Void visitNewClass(NewClassTree tree, String in) {
            Check.due("made in " + in + ", line " + line(tree, false), in.equals("<init>")
                    || MAY_BE_THROWN.contains(tree.getIdentifier().toString()), true);
            for (ExpressionTree argument : tree.getArguments()) {
                boolean isText = argument instanceof LiteralTree;
                Check.due("rule 6: a written text", isText || in.equals("<init>"), true);
            }
            return super.visitNewClass(tree, in);
        }

        @Override
        public Void visitNewArray(NewArrayTree tree, String in) {
            Check.due("row made in " + in + ", line " + line(tree, false), in.equals(""), true);
            return super.visitNewArray(tree, in);
        }

        @Override
        public Void visitThrow(ThrowTree tree, String in) {
            Check.due("rule 6: throw in a constructor", in.equals("<init>"), false);
            boolean isNew = tree.getExpression() instanceof NewClassTree;
            Check.due("rule 6: throw of a new one, line " + line(tree, false), isNew, true);
            return super.visitThrow(tree, in);
        }

        @Override
        public Void visitTry(TryTree tree, String in) {
            refuse(tree, "try");
            return super.visitTry(tree, in);
        }

        @Override
        public Void visitCatch(CatchTree tree, String in) {
            refuse(tree, "catch");
            return super.visitCatch(tree, in);
        }

        @Override
        public Void visitLambdaExpression(LambdaExpressionTree tree, String in) {
            refuse(tree, "lambda");
            return super.visitLambdaExpression(tree, in);
        }

        @Override
        public Void visitMemberReference(MemberReferenceTree tree, String in) {
            refuse(tree, "method reference");
            return super.visitMemberReference(tree, in);
        }

        @Override
        public Void visitSynchronized(SynchronizedTree tree, String in) {
            refuse(tree, "synchronized");
            return super.visitSynchronized(tree, in);
        }

        @Override
        public Void visitTypeCast(TypeCastTree tree, String in) {
            refuse(tree, "cast");
            return super.visitTypeCast(tree, in);
        }
    }
}
