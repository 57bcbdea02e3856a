import com.sun.source.tree.BlockTree;
import com.sun.source.tree.ClassTree;
import com.sun.source.tree.CompilationUnitTree;
import com.sun.source.tree.DoWhileLoopTree;
import com.sun.source.tree.ExpressionTree;
import com.sun.source.tree.ForLoopTree;
import com.sun.source.tree.IdentifierTree;
import com.sun.source.tree.ImportTree;
import com.sun.source.tree.LambdaExpressionTree;
import com.sun.source.tree.MemberReferenceTree;
import com.sun.source.tree.MemberSelectTree;
import com.sun.source.tree.MethodInvocationTree;
import com.sun.source.tree.MethodTree;
import com.sun.source.tree.NewArrayTree;
import com.sun.source.tree.NewClassTree;
import com.sun.source.tree.ThrowTree;
import com.sun.source.tree.TryTree;
import com.sun.source.tree.WhileLoopTree;
import com.sun.source.util.JavacTask;
import com.sun.source.util.SourcePositions;
import com.sun.source.util.TreeScanner;
import com.sun.source.util.Trees;
import java.io.IOException;
import java.nio.file.Path;
import java.util.List;
import java.util.Map;
import java.util.Set;
import java.util.TreeMap;
import java.util.TreeSet;
import javax.tools.JavaCompiler;
import javax.tools.StandardJavaFileManager;
import javax.tools.ToolProvider;

/** What LANGUAGE.md asks of the program's methods, loops, calls and exceptions, read off its syntax tree. */
public final class LanguageTest {
    private static final Check CHECK = new Check();
    private static final Path SOURCE = Path.of("src/main/java/WeightedClauses.java");
    private static final String MADE = "<init>";
    private static final int DEEPEST = 8;
    private static final int LONGEST = 60;
    private static final int MOST_CLASSES = 12;
    private static final Set<String> MAY_BE_THROWN = Set.of("IllegalArgumentException", "IllegalStateException");
    private static final Set<String> LIBRARY = Set.of("Math.max", "Math.min", "Integer.bitCount");

    public static void main(String[] args) throws IOException {
        JavaCompiler compiler = ToolProvider.getSystemJavaCompiler();
        try (StandardJavaFileManager files = compiler.getStandardFileManager(null, null, null)) {
            JavacTask task = (JavacTask) compiler.getTask(
                    null, files, null, List.of("-proc:none"), null, files.getJavaFileObjects(SOURCE));
            SourcePositions positions = Trees.instance(task).getSourcePositions();
            for (CompilationUnitTree unit : task.parse()) {
                Reader reader = new Reader(unit, positions);
                reader.scan(unit, null);
                reader.finish();
            }
        }
        CHECK.finish();
    }

    /** Checks what it comes by, and remembers which method calls which. */
    private static final class Reader extends TreeScanner<Void, Void> {
        private final CompilationUnitTree unit;
        private final SourcePositions positions;
        private final Map<String, Set<String>> callsOf = new TreeMap<>();
        private final Set<String> libraryCalls = new TreeSet<>();
        private String method = "";
        private int classes;
        private int loopDepth;

        Reader(CompilationUnitTree unit, SourcePositions positions) {
            this.unit = unit;
            this.positions = positions;
        }

        private void refuse(String what) {
            CHECK.dueText(method, what, "nothing of this kind");
        }

        void finish() {
            CHECK.due("at most " + MOST_CLASSES + " classes", classes <= MOST_CLASSES ? 1 : 0, 1);
            CHECK.due("methods were read", callsOf.size() > 20 ? 1 : 0, 1);
            for (String call : libraryCalls) {
                CHECK.due(call + " is in the library", LIBRARY.contains(call) ? 1 : 0, 1);
            }
            for (String name : callsOf.keySet()) {
                int deep = depth(name, 1);
                CHECK.due("calls from " + name + " go " + deep + " deep", deep <= DEEPEST ? 1 : 0, 1);
            }
        }

        /** A recursion shows as a depth beyond all bounds. */
        private int depth(String name, int level) {
            int deepest = level;
            if (level <= DEEPEST) {
                for (String next : callsOf.get(name)) {
                    if (callsOf.containsKey(next)) {
                        deepest = Math.max(deepest, depth(next, level + 1));
                    }
                }
            }
            return deepest;
        }

        @Override
        public Void visitImport(ImportTree tree, Void nothing) {
            refuse("import");
            return null;
        }

        @Override
        public Void visitClass(ClassTree tree, Void nothing) {
            classes++;
            return super.visitClass(tree, nothing);
        }

        @Override
        public Void visitMethod(MethodTree tree, Void nothing) {
            method = tree.getName().toString();
            boolean constructor = method.equals(MADE);
            CHECK.due(method + " is the only one of its name", callsOf.containsKey(method) && !constructor ? 1 : 0, 0);
            callsOf.computeIfAbsent(method, any -> new TreeSet<>());
            CHECK.due(method + " is short", lines(tree) <= LONGEST ? 1 : 0, 1);
            CHECK.due(method + " has at most seven parameters", tree.getParameters().size() <= 7 ? 1 : 0, 1);
            super.visitMethod(tree, nothing);
            method = "";
            return null;
        }

        private long lines(MethodTree tree) {
            long from = unit.getLineMap().getLineNumber(positions.getStartPosition(unit, tree));
            long to = unit.getLineMap().getLineNumber(positions.getEndPosition(unit, tree));
            return to - from + 1;
        }

        @Override
        public Void visitMethodInvocation(MethodInvocationTree tree, Void nothing) {
            ExpressionTree called = tree.getMethodSelect();
            if (called instanceof MemberSelectTree select) {
                rememberCall(select);
            } else if (called instanceof IdentifierTree own) {
                callsOf.get(method).add(own.getName().toString());
            }
            return super.visitMethodInvocation(tree, nothing);
        }

        private void rememberCall(MemberSelectTree select) {
            boolean ofAClass = Character.isUpperCase(select.getExpression().toString().charAt(0));
            if (ofAClass) {
                libraryCalls.add(select.toString());
            } else {
                String name = select.getIdentifier().toString();
                callsOf.get(method).add(name);
                CHECK.due(select + " is a method of the program", isDeclared(name) ? 1 : 0, 1);
            }
        }

        private boolean isDeclared(String name) {
            boolean[] found = {false};
            new TreeScanner<Void, Void>() {
                @Override
                public Void visitMethod(MethodTree tree, Void nothing) {
                    found[0] |= tree.getName().contentEquals(name);
                    return null;
                }
            }.scan(unit, null);
            return found[0];
        }

        @Override
        public Void visitForLoop(ForLoopTree tree, Void nothing) {
            boolean counts = tree.getInitializer().size() == 1 && tree.getCondition() != null
                    && tree.getUpdate().size() == 1;
            CHECK.due("a loop of " + method + " has a counter against a bound", counts ? 1 : 0, 1);
            loopDepth++;
            super.visitForLoop(tree, nothing);
            loopDepth--;
            return null;
        }

        @Override
        public Void visitWhileLoop(WhileLoopTree tree, Void nothing) {
            refuse("while");
            return null;
        }

        @Override
        public Void visitDoWhileLoop(DoWhileLoopTree tree, Void nothing) {
            refuse("do");
            return null;
        }

        @Override
        public Void visitNewClass(NewClassTree tree, Void nothing) {
            boolean thrown = MAY_BE_THROWN.contains(tree.getIdentifier().toString());
            CHECK.due(tree + " is made by a constructor or thrown", thrown || method.equals(MADE) ? 1 : 0, 1);
            CHECK.due(tree + " is made in a loop", loopDepth, 0);
            CHECK.due(tree + " has no body of its own", tree.getClassBody() == null ? 1 : 0, 1);
            return super.visitNewClass(tree, nothing);
        }

        @Override
        public Void visitNewArray(NewArrayTree tree, Void nothing) {
            boolean onceForAll = method.isEmpty() || method.equals(MADE);
            CHECK.due(tree + " is made once for each object", onceForAll ? 1 : 0, 1);
            return super.visitNewArray(tree, nothing);
        }

        @Override
        public Void visitThrow(ThrowTree tree, Void nothing) {
            CHECK.due("a constructor throws", method.equals(MADE) ? 1 : 0, 0);
            boolean listed = tree.getExpression() instanceof NewClassTree made
                    && MAY_BE_THROWN.contains(made.getIdentifier().toString());
            CHECK.due(method + " throws what the document names", listed ? 1 : 0, 1);
            return super.visitThrow(tree, nothing);
        }

        @Override
        public Void visitTry(TryTree tree, Void nothing) {
            refuse("try");
            return null;
        }

        @Override
        public Void visitBlock(BlockTree tree, Void nothing) {
            if (method.isEmpty()) {
                refuse("an initialiser block");
            }
            return super.visitBlock(tree, nothing);
        }

        @Override
        public Void visitLambdaExpression(LambdaExpressionTree tree, Void nothing) {
            refuse("a lambda");
            return null;
        }

        @Override
        public Void visitMemberReference(MemberReferenceTree tree, Void nothing) {
            refuse("a method reference");
            return null;
        }
    }
}
