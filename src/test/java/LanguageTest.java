import com.sun.source.tree.AssertTree;
import com.sun.source.tree.BinaryTree;
import com.sun.source.tree.ClassTree;
import com.sun.source.tree.CompilationUnitTree;
import com.sun.source.tree.ImportTree;
import com.sun.source.tree.InstanceOfTree;
import com.sun.source.tree.LambdaExpressionTree;
import com.sun.source.tree.LiteralTree;
import com.sun.source.tree.MemberReferenceTree;
import com.sun.source.tree.MethodInvocationTree;
import com.sun.source.tree.MethodTree;
import com.sun.source.tree.NewClassTree;
import com.sun.source.tree.SynchronizedTree;
import com.sun.source.tree.ThrowTree;
import com.sun.source.tree.Tree;
import com.sun.source.tree.TryTree;
import com.sun.source.tree.TypeCastTree;
import com.sun.source.tree.VariableTree;
import com.sun.source.util.JavacTask;
import com.sun.source.util.TreePath;
import com.sun.source.util.TreePathScanner;
import com.sun.source.util.Trees;
import java.io.File;
import java.util.Set;
import javax.lang.model.element.Element;
import javax.lang.model.element.Modifier;
import javax.lang.model.type.TypeKind;
import javax.lang.model.type.TypeMirror;
import javax.tools.JavaCompiler;
import javax.tools.StandardJavaFileManager;
import javax.tools.ToolProvider;

/** Whether src/main/java/PostSieve.java keeps to ../shared/LANGUAGE.md, as far as its text tells. */
public final class LanguageTest {
    private static final Set<String> LIBRARY = Set.of("java.lang.Object.<init>", "java.lang.String.length",
        "java.lang.String.charAt", "java.lang.System.arraycopy");
    private static final Set<String> THROWN = Set.of("IllegalStateException", "IllegalArgumentException",
        "IndexOutOfBoundsException", "ArithmeticException", "UnsupportedOperationException",
        "NoSuchElementException", "RuntimeException");

    public static void main(String[] args) throws Exception {
        JavaCompiler compiler = ToolProvider.getSystemJavaCompiler();
        StandardJavaFileManager files = compiler.getStandardFileManager(null, null, null);
        JavacTask task = (JavacTask) compiler.getTask(null, files, null, null, null,
                files.getJavaFileObjects(new File("src/main/java/PostSieve.java")));
        for (CompilationUnitTree unit : task.parse()) {
            task.analyze();
            new Scan(Trees.instance(task), unit).scan(unit, null);
        }
        Check.end("LanguageTest");
    }

    private static final class Scan extends TreePathScanner<Void, Void> {
        private final Trees trees;
        private final CompilationUnitTree unit;

        private Scan(Trees trees, CompilationUnitTree unit) {
            this.trees = trees;
            this.unit = unit;
        }

        private long line(Tree tree) {
            return unit.getLineMap().getLineNumber(trees.getSourcePositions().getStartPosition(unit, tree));
        }

        private long lastLine(Tree tree) {
            return unit.getLineMap().getLineNumber(trees.getSourcePositions().getEndPosition(unit, tree));
        }

        private void never(String what, Tree tree) {
            Check.due("line " + line(tree) + ": " + what, "never", "here");
        }

        private void allowed(String what, boolean is, Tree tree) {
            Check.due("line " + line(tree) + ": " + what, true, is);
        }

        private boolean isText(Tree tree) {
            TypeMirror type = trees.getTypeMirror(new TreePath(getCurrentPath(), tree));
            return type != null && type.toString().equals("java.lang.String");
        }

        @Override
        public Void visitImport(ImportTree tree, Void none) {
            String name = tree.getQualifiedIdentifier().toString();
            allowed("rule 4: " + name, name.equals("java.util.NoSuchElementException"), tree);
            return super.visitImport(tree, none);
        }

        @Override
        public Void visitClass(ClassTree tree, Void none) {
            int fields = 0;
            for (Tree member : tree.getMembers()) {
                boolean isField = member.getKind() == Tree.Kind.VARIABLE;
                fields += isField && !((VariableTree) member).getModifiers().getFlags().contains(Modifier.STATIC) ? 1 : 0;
                if (member.getKind() == Tree.Kind.BLOCK) {
                    never("rule 5: an initialiser block", member);
                }
            }
            allowed("rule 11: at most some twenty fields", fields <= 20, tree);
            return super.visitClass(tree, none);
        }

        @Override
        public Void visitVariable(VariableTree tree, Void none) {
            Set<Modifier> flags = tree.getModifiers().getFlags();
            if (flags.contains(Modifier.STATIC)) {
                boolean isPlain = Set.of("int", "long", "boolean", "char", "String").contains(tree.getType().toString());
                allowed("rule 5: a constant", flags.contains(Modifier.FINAL) && isPlain, tree);
            }
            return super.visitVariable(tree, none);
        }

        @Override
        public Void visitMethod(MethodTree tree, Void none) {
            allowed("rule 11: at most seven parameters", tree.getParameters().size() <= 7, tree);
            allowed("rule 11: at most sixty lines", lastLine(tree) - line(tree) < 60, tree);
            return super.visitMethod(tree, none);
        }

        @Override
        public Void visitMethodInvocation(MethodInvocationTree tree, Void none) {
            Element called = trees.getElement(getCurrentPath());
            String owner = called.getEnclosingElement().toString();
            if (!owner.startsWith("PostSieve")) {
                String name = owner + "." + called.getSimpleName();
                allowed("rule 4: " + name, LIBRARY.contains(name), tree);
            }
            return super.visitMethodInvocation(tree, none);
        }

        @Override
        public Void visitThrow(ThrowTree tree, Void none) {
            boolean isNew = tree.getExpression().getKind() == Tree.Kind.NEW_CLASS;
            allowed("rule 6: throw new", isNew, tree);
            if (isNew) {
                NewClassTree made = (NewClassTree) tree.getExpression();
                allowed("rule 6: the exception", THROWN.contains(made.getIdentifier().toString()), tree);
                boolean isWritten = made.getArguments().stream().allMatch(text -> text instanceof LiteralTree);
                allowed("rule 6: a written text", isWritten && made.getArguments().size() < 2, tree);
            }
            return super.visitThrow(tree, none);
        }

        @Override
        public Void visitBinary(BinaryTree tree, Void none) {
            boolean isJoined = tree.getKind() == Tree.Kind.PLUS && isText(tree);
            boolean isCompared = tree.getKind() == Tree.Kind.EQUAL_TO || tree.getKind() == Tree.Kind.NOT_EQUAL_TO;
            boolean areTexts = isText(tree.getLeftOperand()) || isText(tree.getRightOperand());
            allowed("rule 10: joined texts", !isJoined, tree);
            allowed("rule 6: == of texts", !(isCompared && areTexts), tree);
            return super.visitBinary(tree, none);
        }

        @Override
        public Void visitTypeCast(TypeCastTree tree, Void none) {
            TypeMirror type = trees.getTypeMirror(new TreePath(getCurrentPath(), tree.getType()));
            allowed("a cast of a number", type.getKind() != TypeKind.DECLARED, tree);
            return super.visitTypeCast(tree, none);
        }

        @Override
        public Void visitLiteral(LiteralTree tree, Void none) {
            if (tree.getValue() instanceof String text) {
                allowed("rule 4: signs 1 to 127", text.chars().allMatch(sign -> sign > 0 && sign < 128), tree);
            }
            return super.visitLiteral(tree, none);
        }

        @Override
        public Void visitLambdaExpression(LambdaExpressionTree tree, Void none) {
            never("rule 2: a lambda", tree);
            return null;
        }

        @Override
        public Void visitMemberReference(MemberReferenceTree tree, Void none) {
            never("rule 2: a method reference", tree);
            return null;
        }

        @Override
        public Void visitTry(TryTree tree, Void none) {
            never("a try", tree);
            return null;
        }

        @Override
        public Void visitSynchronized(SynchronizedTree tree, Void none) {
            never("rule 6: synchronized", tree);
            return null;
        }

        @Override
        public Void visitAssert(AssertTree tree, Void none) {
            never("rule 6: assert", tree);
            return null;
        }

        @Override
        public Void visitInstanceOf(InstanceOfTree tree, Void none) {
            never("instanceof", tree);
            return null;
        }
    }
}
