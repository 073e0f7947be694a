import com.sun.source.tree.CatchTree;
import com.sun.source.tree.CompilationUnitTree;
import com.sun.source.tree.ImportTree;
import com.sun.source.tree.LambdaExpressionTree;
import com.sun.source.tree.LineMap;
import com.sun.source.tree.MemberReferenceTree;
import com.sun.source.tree.MethodInvocationTree;
import com.sun.source.tree.MethodTree;
import com.sun.source.tree.NewArrayTree;
import com.sun.source.tree.NewClassTree;
import com.sun.source.tree.SynchronizedTree;
import com.sun.source.tree.ThrowTree;
import com.sun.source.tree.Tree;
import com.sun.source.tree.TryTree;
import com.sun.source.tree.TypeCastTree;
import com.sun.source.util.JavacTask;
import com.sun.source.util.TreeScanner;
import com.sun.source.util.Trees;
import java.io.File;
import java.util.ArrayList;
import java.util.List;
import java.util.Map;
import java.util.Set;
import java.util.TreeMap;
import java.util.TreeSet;
import javax.tools.JavaCompiler;
import javax.tools.StandardJavaFileManager;
import javax.tools.ToolProvider;

/** What of shared/LANGUAGE.md can be read from the source: EntryMasters needs little of it. */
public final class LanguageTest {
    private static final int MOST_LINES = 60;
    private static final int MOST_PARAMETERS = 7;
    private static final int DEEPEST = 8;
    private static final Set<String> MAY_BE_THROWN = Set.of(
            "IndexOutOfBoundsException", "IllegalArgumentException", "IllegalStateException");
    private static final Set<String> LIBRARY = Set.of("Arrays.fill");

    /** For each method's name, the names that it calls. */
    private final Map<String, Set<String>> calls = new TreeMap<>();
    private final Set<String> methods = new TreeSet<>();

    public static void main(String[] args) throws Exception {
        new LanguageTest().go(args.length > 0 ? args[0] : "src/main/java/EntryMasters.java");
        Check.finish("LanguageTest");
    }

    private void go(String path) throws Exception {
        JavaCompiler compiler = ToolProvider.getSystemJavaCompiler();
        try (StandardJavaFileManager files = compiler.getStandardFileManager(null, null, null)) {
            var source = files.getJavaFileObjects(new File(path));
            JavacTask task = (JavacTask) compiler.getTask(null, files, null, null, null, source);
            for (CompilationUnitTree unit : task.parse()) {
                Check.due("a package line", unit.getPackageName() == null, true);
                Check.due("classes on top", unit.getTypeDecls().size(), 1);
                new Reader(unit, Trees.instance(task)).scan(unit, "");
            }
        }
        Check.part("rule 11, depth");
        for (String method : methods) {
            int depth = depth(method, List.of());
            Check.due(method + " calls " + depth + " deep", depth <= DEEPEST, true);
        }
    }

    /** By names alone, so methods of one name count as one; deeper than the truth, never less. */
    private int depth(String method, List<String> open) {
        Check.due("rule 8: " + method + " calls itself by " + open, open.contains(method), false);
        if (open.contains(method)) {
            return 1000;
        }
        List<String> inside = new ArrayList<>(open);
        inside.add(method);
        int deepest = 0;
        for (String called : calls.getOrDefault(method, Set.of())) {
            if (methods.contains(called)) {
                deepest = Math.max(deepest, depth(called, inside));
            }
        }
        return deepest + 1;
    }

    private final class Reader extends TreeScanner<Void, String> {
        private final CompilationUnitTree unit;
        private final Trees trees;

        Reader(CompilationUnitTree unit, Trees trees) {
            this.unit = unit;
            this.trees = trees;
        }

        private long line(Tree tree, boolean isEnd) {
            var places = trees.getSourcePositions();
            LineMap lines = unit.getLineMap();
            long place = isEnd ? places.getEndPosition(unit, tree) : places.getStartPosition(unit, tree);
            return lines.getLineNumber(place);
        }

        private void refuse(Tree tree, String what) {
            Check.due("line " + line(tree, false) + ": " + what, true, false);
        }

        @Override
        public Void visitImport(ImportTree tree, String in) {
            Check.due("import", tree.getQualifiedIdentifier().toString(), "java.util.Arrays");
            return super.visitImport(tree, in);
        }

        @Override
        public Void visitMethod(MethodTree tree, String in) {
            String name = tree.getName().toString();
            long lines = line(tree, true) - line(tree, false) + 1;
            Check.due(name + " has " + lines + " lines", lines <= MOST_LINES, true);
            Check.due(name + "'s parameters", tree.getParameters().size() <= MOST_PARAMETERS, true);
            if (!name.equals("<init>")) {
                methods.add(name);
            }
            return super.visitMethod(tree, name);
        }

        @Override
        public Void visitMethodInvocation(MethodInvocationTree tree, String in) {
            String called = tree.getMethodSelect().toString();
            String name = called.substring(called.lastIndexOf('.') + 1);
            if (called.startsWith("Arrays.") || called.startsWith("System.") || called.startsWith("Math.")) {
                Check.due("library's " + called, LIBRARY.contains(called), true);
            } else if (!name.equals("super")) {
                calls.computeIfAbsent(in, key -> new TreeSet<>()).add(name);
            }
            return super.visitMethodInvocation(tree, in);
        }

        @Override
        public Void visitNewClass(NewClassTree tree, String in) {
            Check.due("made in " + in + ", line " + line(tree, false), in.equals("<init>")
                    || MAY_BE_THROWN.contains(tree.getIdentifier().toString()), true);
            return super.visitNewClass(tree, in);
        }

        @Override
        public Void visitNewArray(NewArrayTree tree, String in) {
            Check.due("row made in " + in + ", line " + line(tree, false), in.equals(""), true);
            return super.visitNewArray(tree, in);
        }

        @Override
        public Void visitThrow(ThrowTree tree, String in) {
            Check.due("rule 6: throw in a constructor", in.equals("<init>"), false);
            boolean isNew = tree.getExpression() instanceof NewClassTree;
            Check.due("rule 6: throw of a new one, line " + line(tree, false), isNew, true);
            return super.visitThrow(tree, in);
        }

        @Override
        public Void visitTry(TryTree tree, String in) {
            refuse(tree, "try");
            return super.visitTry(tree, in);
        }

        @Override
        public Void visitCatch(CatchTree tree, String in) {
            refuse(tree, "catch");
            return super.visitCatch(tree, in);
        }

        @Override
        public Void visitLambdaExpression(LambdaExpressionTree tree, String in) {
            refuse(tree, "lambda");
            return super.visitLambdaExpression(tree, in);
        }

        @Override
        public Void visitMemberReference(MemberReferenceTree tree, String in) {
            refuse(tree, "method reference");
            return super.visitMemberReference(tree, in);
        }

        @Override
        public Void visitSynchronized(SynchronizedTree tree, String in) {
            refuse(tree, "synchronized");
            return super.visitSynchronized(tree, in);
        }

        @Override
        public Void visitTypeCast(TypeCastTree tree, String in) {
            refuse(tree, "cast");
            return super.visitTypeCast(tree, in);
        }
    }
}
