import com.sun.source.tree.AssertTree;
import com.sun.source.tree.BinaryTree;
import com.sun.source.tree.BlockTree;
import com.sun.source.tree.CatchTree;
import com.sun.source.tree.ClassTree;
import com.sun.source.tree.CompilationUnitTree;
import com.sun.source.tree.ExpressionTree;
import com.sun.source.tree.IdentifierTree;
import com.sun.source.tree.ImportTree;
import com.sun.source.tree.LambdaExpressionTree;
import com.sun.source.tree.LiteralTree;
import com.sun.source.tree.MemberReferenceTree;
import com.sun.source.tree.MemberSelectTree;
import com.sun.source.tree.MethodTree;
import com.sun.source.tree.NewClassTree;
import com.sun.source.tree.SynchronizedTree;
import com.sun.source.tree.ThrowTree;
import com.sun.source.tree.Tree;
import com.sun.source.tree.TryTree;
import com.sun.source.tree.UnionTypeTree;
import com.sun.source.tree.VariableTree;
import com.sun.source.util.JavacTask;
import com.sun.source.util.SourcePositions;
import com.sun.source.util.TreeScanner;
import com.sun.source.util.Trees;
import java.io.IOException;
import java.util.List;
import java.util.Set;
import javax.lang.model.element.Modifier;
import javax.tools.JavaCompiler;
import javax.tools.StandardJavaFileManager;
import javax.tools.ToolProvider;

/** What can be read off the source of the rules of ../shared/LANGUAGE.md: no more than they forbid. */
public final class LanguageTest {
    private static final String FILE = "src/main/java/FeedTower.java";
    private static final Set<String> IMPORTS = Set.of("java.util.ArrayList", "java.util.List", "java.util.Iterator",
            "java.util.Arrays", "java.util.NoSuchElementException");
    private static final Set<String> EXCEPTIONS = Set.of("IllegalStateException", "IllegalArgumentException",
            "IndexOutOfBoundsException", "ArithmeticException", "UnsupportedOperationException", "NoSuchElementException",
            "RuntimeException");
    private static final Set<String> OUTSIDE = Set.of("Thread", "Random", "Runtime", "ProcessHandle", "Process", "Scanner", "File",
            "Files", "Instant", "Clock", "Locale");
    private static final int MOST_PARAMETERS = 7;
    /** Some twelve, some twenty and some sixty, says rule 11: these are beyond some. */
    private static final int MOST_CLASSES = 15;
    private static final int MOST_FIELDS = 25;
    private static final int MOST_LINES = 75;

    public static void main(String[] args) throws IOException {
        JavaCompiler compiler = ToolProvider.getSystemJavaCompiler();
        try (StandardJavaFileManager files = compiler.getStandardFileManager(null, null, null)) {
            JavacTask task = (JavacTask) compiler.getTask(null, files, null, null, null, files.getJavaFileObjects(FILE));
            for (CompilationUnitTree unit : task.parse()) {
                Rules rules = new Rules(unit, Trees.instance(task).getSourcePositions());
                theFile(unit);
                rules.scan(unit, null);
                Suite.tell(rules.classes <= MOST_CLASSES, "rule 11: the file has " + rules.classes + " classes");
            }
        }
        Suite.end("LanguageTest");
    }

    private static void theFile(CompilationUnitTree unit) {
        Suite.is("rule 1: no package line", true, unit.getPackage() == null);
        Suite.is("rule 1: one class in the file", 1, unit.getTypeDecls().size());
        for (ImportTree imported : unit.getImports()) {
            String name = imported.getQualifiedIdentifier().toString();
            Suite.is("rule 4: import of " + name, true, IMPORTS.contains(name) && !imported.isStatic());
        }
    }

    /** Walks through the source; knows the method that it is in. */
    private static final class Rules extends TreeScanner<Void, Void> {
        private final CompilationUnitTree unit;
        private final SourcePositions positions;
        private int classes = 0;
        private MethodTree method = null;

        Rules(CompilationUnitTree unit, SourcePositions positions) {
            this.unit = unit;
            this.positions = positions;
        }

        private void rule(int number, Tree at, boolean holds, String what) {
            long line = unit.getLineMap().getLineNumber(positions.getStartPosition(unit, at));
            Suite.tell(holds, FILE + ":" + line + " is against rule " + number + ": " + what);
        }

        @Override
        public Void visitClass(ClassTree tree, Void none) {
            classes++;
            int fields = 0;
            for (Tree member : tree.getMembers()) {
                if (member instanceof BlockTree) {
                    rule(5, member, !((BlockTree) member).isStatic(), "a static initialiser block");
                }
                if (member instanceof VariableTree) {
                    Set<Modifier> of = ((VariableTree) member).getModifiers().getFlags();
                    fields += of.contains(Modifier.STATIC) ? 0 : 1;
                    rule(5, member, !of.contains(Modifier.STATIC) || of.contains(Modifier.FINAL), "a static field that is not final");
                }
            }
            rule(11, tree, fields <= MOST_FIELDS, fields + " fields");
            return super.visitClass(tree, none);
        }

        @Override
        public Void visitMethod(MethodTree tree, Void none) {
            MethodTree outer = method;
            method = tree;
            String name = tree.getName().toString();
            rule(11, tree, tree.getParameters().size() <= MOST_PARAMETERS, tree.getParameters().size() + " parameters");
            rule(11, tree, lines(tree) <= MOST_LINES, lines(tree) + " lines");
            rule(6, tree, !Set.of("equals", "hashCode", "toString", "finalize").contains(name), "a method " + name);
            boolean throwsOne = holds(tree, Tree.Kind.THROW);
            rule(6, tree, !throwsOne || !holds(tree, Tree.Kind.TRY), "a try in the very method that holds a throw");
            rule(6, tree, !throwsOne || !name.equals("<init>"), "a throw in a constructor");
            super.visitMethod(tree, none);
            method = outer;
            return null;
        }

        private long lines(Tree tree) {
            return unit.getLineMap().getLineNumber(positions.getEndPosition(unit, tree))
                    - unit.getLineMap().getLineNumber(positions.getStartPosition(unit, tree)) + 1;
        }

        private static boolean holds(MethodTree in, Tree.Kind kind) {
            boolean[] found = {false};
            new TreeScanner<Void, Void>() {
                @Override
                public Void scan(Tree tree, Void none) {
                    found[0] |= tree != null && tree.getKind() == kind;
                    return super.scan(tree, none);
                }
            }.scan(in, null);
            return found[0];
        }

        @Override
        public Void visitThrow(ThrowTree tree, Void none) {
            ExpressionTree thrown = tree.getExpression();
            boolean isNew = thrown instanceof NewClassTree;
            rule(6, tree, isNew && EXCEPTIONS.contains(((NewClassTree) thrown).getIdentifier().toString()), "throw of " + thrown);
            if (isNew) {
                for (ExpressionTree text : ((NewClassTree) thrown).getArguments()) {
                    rule(6, text, text.getKind() == Tree.Kind.STRING_LITERAL, "a text that is not written out");
                }
            }
            return super.visitThrow(tree, none);
        }

        @Override
        public Void visitTry(TryTree tree, Void none) {
            rule(6, tree, tree.getFinallyBlock() == null, "finally");
            rule(6, tree, tree.getResources().isEmpty(), "try with resources");
            return super.visitTry(tree, none);
        }

        @Override
        public Void visitCatch(CatchTree tree, Void none) {
            Tree type = tree.getParameter().getType();
            List<? extends Tree> all = type instanceof UnionTypeTree ? ((UnionTypeTree) type).getTypeAlternatives() : List.of(type);
            for (Tree one : all) {
                rule(6, tree, EXCEPTIONS.contains(one.toString()), "a catch of " + one);
            }
            return super.visitCatch(tree, none);
        }

        @Override
        public Void visitLambdaExpression(LambdaExpressionTree tree, Void none) {
            rule(2, tree, false, "a lambda");
            return super.visitLambdaExpression(tree, none);
        }

        @Override
        public Void visitMemberReference(MemberReferenceTree tree, Void none) {
            rule(2, tree, false, "a method reference");
            return super.visitMemberReference(tree, none);
        }

        @Override
        public Void visitSynchronized(SynchronizedTree tree, Void none) {
            rule(6, tree, false, "synchronized");
            return super.visitSynchronized(tree, none);
        }

        @Override
        public Void visitAssert(AssertTree tree, Void none) {
            rule(6, tree, false, "assert");
            return super.visitAssert(tree, none);
        }

        @Override
        public Void visitBinary(BinaryTree tree, Void none) {
            boolean joins = tree.getKind() == Tree.Kind.PLUS && (tree.getLeftOperand().getKind() == Tree.Kind.STRING_LITERAL
                    || tree.getRightOperand().getKind() == Tree.Kind.STRING_LITERAL);
            rule(10, tree, !joins, "texts that are joined by +");
            return super.visitBinary(tree, none);
        }

        @Override
        public Void visitLiteral(LiteralTree tree, Void none) {
            if (tree.getValue() instanceof String || tree.getValue() instanceof Character) {
                boolean isPlain = tree.getValue().toString().chars().allMatch(sign -> sign >= 1 && sign <= 127);
                rule(4, tree, isPlain, "a sign of a constant beyond 1 to 127");
            }
            return super.visitLiteral(tree, none);
        }

        @Override
        public Void visitMemberSelect(MemberSelectTree tree, Void none) {
            String of = tree.getExpression().toString();
            String name = tree.getIdentifier().toString();
            rule(4, tree, !(Set.of("Math", "Integer", "Long").contains(of) && name.endsWith("Exact")), of + "." + name);
            rule(13, tree, !of.equals("System") || name.equals("arraycopy"), of + "." + name);
            return super.visitMemberSelect(tree, none);
        }

        @Override
        public Void visitIdentifier(IdentifierTree tree, Void none) {
            rule(13, tree, !OUTSIDE.contains(tree.getName().toString()), "" + tree.getName());
            return super.visitIdentifier(tree, none);
        }
    }
}
