import com.sun.source.tree.AssertTree;
import com.sun.source.tree.ClassTree;
import com.sun.source.tree.CompilationUnitTree;
import com.sun.source.tree.ExpressionTree;
import com.sun.source.tree.ImportTree;
import com.sun.source.tree.LambdaExpressionTree;
import com.sun.source.tree.LineMap;
import com.sun.source.tree.MemberReferenceTree;
import com.sun.source.tree.MemberSelectTree;
import com.sun.source.tree.MethodInvocationTree;
import com.sun.source.tree.MethodTree;
import com.sun.source.tree.NewClassTree;
import com.sun.source.tree.SynchronizedTree;
import com.sun.source.tree.ThrowTree;
import com.sun.source.tree.Tree;
import com.sun.source.tree.TryTree;
import com.sun.source.tree.VariableTree;
import com.sun.source.util.JavacTask;
import com.sun.source.util.SourcePositions;
import com.sun.source.util.TreeScanner;
import com.sun.source.util.Trees;
import java.io.IOException;
import java.nio.file.Path;
import java.util.List;
import java.util.Set;
import java.util.TreeSet;
import javax.lang.model.element.Modifier;
import javax.tools.JavaCompiler;
import javax.tools.StandardJavaFileManager;
import javax.tools.ToolProvider;

/**
 * Some rules of ../shared/LANGUAGE.md, seen from the text of the class: forms that it does not use, the library,
 * exceptions, and how long and how many things are. The other rules are kept by reading.
 */
public final class LanguageTest {
    private static final Path FILE = Path.of("src/main/java/EvenClock.java");
    private static final Set<String> IMPORTS = Set.of("java.util.NoSuchElementException", "java.util.ArrayList",
            "java.util.List", "java.util.Arrays", "java.util.Iterator");
    private static final Set<String> EXCEPTIONS = Set.of("IllegalStateException", "IllegalArgumentException",
            "IndexOutOfBoundsException", "ArithmeticException", "UnsupportedOperationException",
            "NoSuchElementException", "RuntimeException");
    /** Calls of texts and lists are allowed, too, but the class needs none so far. */
    private static final Set<String> LIBRARY = Set.of("Math", "Integer", "Long");
    private static final Set<String> LIBRARY_CALLS = Set.of("System.arraycopy", "Arrays.copyOf", "Arrays.copyOfRange",
            "Arrays.fill", "List.of");
    private static final int MOST_PARAMETERS = 7;
    private static final int MOST_LINES = 60;
    private static final int MOST_CLASSES = 12;
    private static final int MOST_FIELDS = 20;

    public static void main(String[] args) throws IOException {
        JavaCompiler compiler = ToolProvider.getSystemJavaCompiler();
        try (StandardJavaFileManager files = compiler.getStandardFileManager(null, null, null)) {
            JavacTask task = (JavacTask) compiler.getTask(null, files, null, List.of("--release", "17"), null,
                    files.getJavaFileObjects(FILE));
            CompilationUnitTree unit = task.parse().iterator().next();
            Checks.sentence("LANGUAGE.md", () -> new Rules(unit, Trees.instance(task).getSourcePositions()).look());
        }
        Checks.finish();
    }

    private static void holds(String rule, Object where, boolean isSo) {
        Checks.due(rule + ": " + where, isSo, true);
    }

    private static final class Rules extends TreeScanner<Void, Void> {
        private final CompilationUnitTree unit;
        private final SourcePositions positions;
        private final Set<String> ownMethods = new TreeSet<>();
        private int classes = 0;

        Rules(CompilationUnitTree unit, SourcePositions positions) {
            this.unit = unit;
            this.positions = positions;
        }

        void look() {
            holds("no package line", FILE, unit.getPackage() == null);
            holds("one public class", FILE, unit.getTypeDecls().size() == 1);
            new TreeScanner<Void, Void>() {
                @Override
                public Void visitMethod(MethodTree method, Void none) {
                    ownMethods.add(method.getName().toString());
                    return super.visitMethod(method, none);
                }
            }.scan(unit, null);
            scan(unit, null);
            holds("11: some twelve classes at most", classes, classes <= MOST_CLASSES);
        }

        @Override
        public Void visitImport(ImportTree tree, Void none) {
            String name = tree.getQualifiedIdentifier().toString();
            holds("4: import", name, !tree.isStatic() && IMPORTS.contains(name));
            return super.visitImport(tree, none);
        }

        @Override
        public Void visitClass(ClassTree tree, Void none) {
            classes++;
            Set<Modifier> modifiers = tree.getModifiers().getFlags();
            boolean isTop = unit.getTypeDecls().contains(tree);
            holds("1: a class inside is static and not public", tree.getSimpleName(), isTop
                    || modifiers.contains(Modifier.STATIC) && !modifiers.contains(Modifier.PUBLIC)
                    && !modifiers.contains(Modifier.PROTECTED));
            int fields = 0;
            for (Tree member : tree.getMembers()) {
                holds("5: no block in a class", tree.getSimpleName(), member.getKind() != Tree.Kind.BLOCK);
                if (member instanceof VariableTree) {
                    Set<Modifier> of = ((VariableTree) member).getModifiers().getFlags();
                    holds("5: static fields are final", member,
                            !of.contains(Modifier.STATIC) || of.contains(Modifier.FINAL));
                    fields += of.contains(Modifier.STATIC) ? 0 : 1;
                }
            }
            holds("11: some twenty fields at most in " + tree.getSimpleName(), fields, fields <= MOST_FIELDS);
            return super.visitClass(tree, none);
        }

        @Override
        public Void visitMethod(MethodTree tree, Void none) {
            LineMap lines = unit.getLineMap();
            long first = lines.getLineNumber(positions.getStartPosition(unit, tree));
            long last = lines.getLineNumber(positions.getEndPosition(unit, tree));
            holds("11: some sixty lines at most", tree.getName(), last - first < MOST_LINES);
            holds("11: seven parameters at most", tree.getName(), tree.getParameters().size() <= MOST_PARAMETERS);
            holds("6: not synchronized", tree.getName(),
                    !tree.getModifiers().getFlags().contains(Modifier.SYNCHRONIZED));
            return super.visitMethod(tree, none);
        }

        @Override
        public Void visitMethodInvocation(MethodInvocationTree tree, Void none) {
            ExpressionTree called = tree.getMethodSelect();
            if (called instanceof MemberSelectTree) {
                String on = ((MemberSelectTree) called).getExpression().toString();
                String name = ((MemberSelectTree) called).getIdentifier().toString();
                boolean isLibrary = LIBRARY.contains(on) && !name.endsWith("Exact")
                        || LIBRARY_CALLS.contains(on + "." + name);
                holds("4: the library", tree, isLibrary || ownMethods.contains(name));
            }
            return super.visitMethodInvocation(tree, none);
        }

        @Override
        public Void visitThrow(ThrowTree tree, Void none) {
            holds("6: throw new E()", tree, tree.getExpression() instanceof NewClassTree
                    && isPlain((NewClassTree) tree.getExpression()));
            return super.visitThrow(tree, none);
        }

        private static boolean isPlain(NewClassTree made) {
            boolean hasText = made.getArguments().size() == 1
                    && made.getArguments().get(0).getKind() == Tree.Kind.STRING_LITERAL;
            return EXCEPTIONS.contains(made.getIdentifier().toString()) && (made.getArguments().isEmpty() || hasText);
        }

        @Override
        public Void visitTry(TryTree tree, Void none) {
            holds("6: try without finally and resources", tree,
                    tree.getFinallyBlock() == null && tree.getResources().isEmpty());
            return super.visitTry(tree, none);
        }

        @Override
        public Void visitLambdaExpression(LambdaExpressionTree tree, Void none) {
            holds("2: no lambda", tree, false);
            return super.visitLambdaExpression(tree, none);
        }

        @Override
        public Void visitMemberReference(MemberReferenceTree tree, Void none) {
            holds("2: no method reference", tree, false);
            return super.visitMemberReference(tree, none);
        }

        @Override
        public Void visitSynchronized(SynchronizedTree tree, Void none) {
            holds("6: no synchronized", tree, false);
            return super.visitSynchronized(tree, none);
        }

        @Override
        public Void visitAssert(AssertTree tree, Void none) {
            holds("6: no assert", tree, false);
            return super.visitAssert(tree, none);
        }
    }
}
