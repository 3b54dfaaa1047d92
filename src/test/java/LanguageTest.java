import com.sun.source.tree.AssertTree;
import com.sun.source.tree.BlockTree;
import com.sun.source.tree.ClassTree;
import com.sun.source.tree.CompilationUnitTree;
import com.sun.source.tree.ImportTree;
import com.sun.source.tree.LambdaExpressionTree;
import com.sun.source.tree.LiteralTree;
import com.sun.source.tree.MemberReferenceTree;
import com.sun.source.tree.MethodTree;
import com.sun.source.tree.NewClassTree;
import com.sun.source.tree.SynchronizedTree;
import com.sun.source.tree.ThrowTree;
import com.sun.source.tree.Tree;
import com.sun.source.tree.TryTree;
import com.sun.source.tree.VariableTree;
import com.sun.source.util.JavacTask;
import com.sun.source.util.SourcePositions;
import com.sun.source.util.TreeScanner;
import com.sun.source.util.Trees;
import java.io.IOException;
import java.nio.file.Files;
import java.nio.file.Path;
import java.util.List;
import java.util.Set;
import java.util.stream.Stream;
import javax.lang.model.element.Modifier;
import javax.tools.JavaCompiler;
import javax.tools.StandardJavaFileManager;
import javax.tools.ToolProvider;

/**
 * The rules of LANGUAGE.md that can be told from the program's text alone: one file, its imports, its exceptions, its
 * static fields, what it must not use, and its sizes (where a rule says "some sixty", a little more is let through).
 */
public final class LanguageTest {
    private static final Path PROGRAM = Path.of("src/main/java/BinStreams.java");
    private static final Set<String> EXCEPTIONS = Set.of("IllegalStateException", "IllegalArgumentException",
            "IndexOutOfBoundsException", "ArithmeticException", "UnsupportedOperationException",
            "NoSuchElementException", "RuntimeException");
    private static final Set<String> IMPORTS = Set.of("java.util.ArrayList", "java.util.Arrays", "java.util.Iterator",
            "java.util.List", "java.util.NoSuchElementException");
    private static final int MOST_PARAMETERS = 7;
    private static final int MOST_LINES = 70;
    private static final int MOST_FIELDS = 24;
    private static final int MOST_CLASSES = 14;

    private static int wrong = 0;

    private static void rule(int number, boolean kept, String what) {
        if (!kept) {
            wrong++;
            System.out.println("rule " + number + " of LANGUAGE.md: " + what);
        }
    }

    /** Goes through the whole text once. */
    private static final class Rules extends TreeScanner<Void, Void> {
        final CompilationUnitTree unit;
        final SourcePositions positions;
        int classes = 0;
        private MethodTree method;

        Rules(CompilationUnitTree unit, SourcePositions positions) {
            this.unit = unit;
            this.positions = positions;
        }

        static boolean isStatic(VariableTree field) {
            return field.getModifiers().getFlags().contains(Modifier.STATIC);
        }

        long lines(Tree tree) {
            long first = unit.getLineMap().getLineNumber(positions.getStartPosition(unit, tree));
            return unit.getLineMap().getLineNumber(positions.getEndPosition(unit, tree)) - first + 1;
        }

        @Override
        public Void visitClass(ClassTree tree, Void none) {
            classes++;
            int fields = 0;
            for (Tree member : tree.getMembers()) {
                if (member instanceof VariableTree field && !isStatic(field)) fields++;
                rule(5, !(member instanceof BlockTree block && block.isStatic()), "a static block");
            }
            rule(11, fields <= MOST_FIELDS, tree.getSimpleName() + " has " + fields + " fields");
            return super.visitClass(tree, none);
        }

        @Override
        public Void visitMethod(MethodTree tree, Void none) {
            rule(11, tree.getParameters().size() <= MOST_PARAMETERS, tree.getName() + " has too many parameters");
            rule(11, lines(tree) <= MOST_LINES, tree.getName() + " is too long");
            method = tree;
            super.visitMethod(tree, none);
            method = null;
            return none;
        }

        @Override
        public Void visitVariable(VariableTree tree, Void none) {
            boolean isFinal = tree.getModifiers().getFlags().contains(Modifier.FINAL);
            rule(5, isFinal || !isStatic(tree), tree.getName() + " is static and not final");
            return super.visitVariable(tree, none);
        }

        @Override
        public Void visitThrow(ThrowTree tree, Void none) {
            boolean plain = tree.getExpression() instanceof NewClassTree made
                    && EXCEPTIONS.contains(made.getIdentifier().toString())
                    && made.getArguments().stream().allMatch(a -> a instanceof LiteralTree);
            rule(6, plain, "" + tree);
            rule(6, method != null && !method.getName().contentEquals("<init>"), "a throw in a constructor");
            return super.visitThrow(tree, none);
        }

        @Override
        public Void visitTry(TryTree tree, Void none) {
            rule(6, tree.getFinallyBlock() == null && tree.getResources().isEmpty(), "finally, or try with resources");
            return super.visitTry(tree, none);
        }

        @Override
        public Void visitLambdaExpression(LambdaExpressionTree tree, Void none) {
            rule(2, false, "a lambda");
            return none;
        }

        @Override
        public Void visitMemberReference(MemberReferenceTree tree, Void none) {
            rule(2, false, "a method reference");
            return none;
        }

        @Override
        public Void visitAssert(AssertTree tree, Void none) {
            rule(6, false, "an assert");
            return none;
        }

        @Override
        public Void visitSynchronized(SynchronizedTree tree, Void none) {
            rule(6, false, "synchronized");
            return none;
        }
    }

    private static void oneFile() throws IOException {
        try (Stream<Path> all = Files.walk(Path.of("src/main"))) {
            List<Path> files = all.filter(Files::isRegularFile).toList();
            rule(1, files.equals(List.of(PROGRAM)), "the program is " + files);
        }
    }

    private static void wholeText() throws IOException {
        JavaCompiler compiler = ToolProvider.getSystemJavaCompiler();
        try (StandardJavaFileManager files = compiler.getStandardFileManager(null, null, null)) {
            JavacTask task = (JavacTask) compiler.getTask(null, files, null, null, null,
                    files.getJavaFileObjects(PROGRAM));
            CompilationUnitTree unit = task.parse().iterator().next();
            rule(1, unit.getPackageName() == null && unit.getTypeDecls().size() == 1, "one class without a package");
            for (ImportTree used : unit.getImports()) {
                String name = used.getQualifiedIdentifier().toString();
                rule(4, !used.isStatic() && IMPORTS.contains(name), "import " + name);
            }
            Rules rules = new Rules(unit, Trees.instance(task).getSourcePositions());
            rules.scan(unit.getTypeDecls(), null);
            rule(11, rules.classes <= MOST_CLASSES, "there are " + rules.classes + " classes");
        }
    }

    public static void main(String[] args) throws IOException {
        oneFile();
        wholeText();
        System.out.println(wrong == 0 ? "the language is as due" : wrong + " places are not in the language");
        if (wrong != 0) System.exit(1);
    }
}
