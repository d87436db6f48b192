import com.sun.source.tree.AssertTree;
import com.sun.source.tree.ClassTree;
import com.sun.source.tree.CompilationUnitTree;
import com.sun.source.tree.DoWhileLoopTree;
import com.sun.source.tree.ExpressionTree;
import com.sun.source.tree.ForLoopTree;
import com.sun.source.tree.IdentifierTree;
import com.sun.source.tree.ImportTree;
import com.sun.source.tree.LambdaExpressionTree;
import com.sun.source.tree.LiteralTree;
import com.sun.source.tree.MemberReferenceTree;
import com.sun.source.tree.MemberSelectTree;
import com.sun.source.tree.MethodTree;
import com.sun.source.tree.NewClassTree;
import com.sun.source.tree.SynchronizedTree;
import com.sun.source.tree.ThrowTree;
import com.sun.source.tree.Tree;
import com.sun.source.tree.TryTree;
import com.sun.source.tree.VariableTree;
import com.sun.source.tree.WhileLoopTree;
import com.sun.source.util.JavacTask;
import com.sun.source.util.TreePath;
import com.sun.source.util.TreePathScanner;
import com.sun.source.util.Trees;
import java.io.IOException;
import java.nio.file.Path;
import java.util.ArrayList;
import java.util.List;
import java.util.Set;
import javax.lang.model.element.Modifier;
import javax.tools.JavaCompiler;
import javax.tools.StandardJavaFileManager;
import javax.tools.ToolProvider;

/**
 * The rules of ../shared/LANGUAGE.md that can be seen in the program's syntax. Rule 1 is looked at
 * by FaceTest, who calls whom by CallsTest, what is made (12) by RoomTest; that no call throws by
 * itself and every loop ends (7 and 9) is left to the reader, but for loops that have no condition
 * at all.
 */
public final class LanguageTest extends TreePathScanner<Void, Void> {
    private static final Path PROGRAM = Path.of("src/main/java/DropFour.java");
    private static final Set<String> EXCEPTIONS = Set.of("IllegalStateException", "IllegalArgumentException",
            "IndexOutOfBoundsException", "ArithmeticException", "UnsupportedOperationException",
            "NoSuchElementException", "RuntimeException");
    private static final Set<String> IMPORTS = Set.of("java.util.ArrayList", "java.util.List", "java.util.Arrays",
            "java.util.Iterator", "java.util.NoSuchElementException");
    private static final Set<String> LIBRARY = Set.of("Math", "Integer", "Long", "String", "System", "Arrays", "List");
    // What the program has need of; rule 3 would leave some more.
    private static final Set<String> TYPES = Set.of("int", "long", "boolean", "int[]", "long[]");
    private static final Set<String> STATIC_TYPES = Set.of("int", "long", "boolean", "char", "String",
            "int[]", "long[]", "char[]", "byte[]");
    private static final int MOST_CLASSES = 12;
    private static final int MOST_FIELDS = 20;
    private static final int MOST_PARAMETERS = 7;
    private static final int MOST_LINES = 60;

    private final Check check = new Check();
    private final List<String> classes = new ArrayList<>();
    private CompilationUnitTree unit;
    private Trees trees;

    public static void main(String[] args) throws IOException {
        new LanguageTest().all();
    }

    private void all() throws IOException {
        JavaCompiler compiler = ToolProvider.getSystemJavaCompiler();
        try (StandardJavaFileManager files = compiler.getStandardFileManager(null, null, null)) {
            JavacTask task = (JavacTask) compiler.getTask(null, files, null, null, null, files.getJavaFileObjects(PROGRAM));
            trees = Trees.instance(task);
            for (CompilationUnitTree parsed : task.parse()) {
                unit = parsed;
                check.same("a package line", unit.getPackageName() != null, false);
                check.same("types in the file", unit.getTypeDecls().size(), 1);
                nameClasses(unit.getTypeDecls());
                scan(new TreePath(unit), null);
            }
        }
        check.same("rule 11: classes " + classes, classes.size() <= MOST_CLASSES, true);
        check.end("LanguageTest");
    }

    /** Before all else, as a class may be spoken of above the place where it stands. */
    private void nameClasses(List<? extends Tree> members) {
        for (Tree member : members) {
            if (member instanceof ClassTree named) {
                classes.add(named.getSimpleName().toString());
                nameClasses(named.getMembers());
            }
        }
    }

    private void refuse(String rule, Tree tree) {
        check.same(rule + ": " + tree, "is there", "is not there");
    }

    private long line(long position) {
        return unit.getLineMap().getLineNumber(position);
    }

    private long linesOf(Tree tree) {
        long start = trees.getSourcePositions().getStartPosition(unit, tree);
        long end = trees.getSourcePositions().getEndPosition(unit, tree);
        return line(end) - line(start) + 1;
    }

    private boolean isInside(Tree.Kind kind) {
        for (Tree above : getCurrentPath().getParentPath()) {
            if (above.getKind() == kind) {
                return true;
            }
        }
        return false;
    }

    @Override
    public Void visitImport(ImportTree tree, Void none) {
        check.same("rule 4: " + tree, IMPORTS.contains(tree.getQualifiedIdentifier().toString()), true);
        return null;
    }

    @Override
    public Void visitClass(ClassTree tree, Void none) {
        String name = tree.getSimpleName().toString();
        check.same("rule 2: " + name + " is a local class", !name.isEmpty() && isInside(Tree.Kind.METHOD), false);
        int fields = 0;
        for (Tree member : tree.getMembers()) {
            boolean isField = member instanceof VariableTree field && !field.getModifiers().getFlags().contains(Modifier.STATIC);
            fields += isField ? 1 : 0;
            check.same("rule 5: an initialiser block in " + name, member.getKind() == Tree.Kind.BLOCK, false);
            if (member instanceof VariableTree field) {
                lookAtField(name, field);
            }
        }
        check.same("rule 11: fields of " + name, fields <= MOST_FIELDS, true);
        return super.visitClass(tree, none);
    }

    private void lookAtField(String name, VariableTree field) {
        Set<Modifier> flags = field.getModifiers().getFlags();
        if (flags.contains(Modifier.STATIC)) {
            check.same("rule 5: " + name + "." + field.getName() + " is final", flags.contains(Modifier.FINAL), true);
            check.same("rule 5: type of " + name + "." + field.getName(),
                    STATIC_TYPES.contains(field.getType().toString()), true);
        }
    }

    @Override
    public Void visitMethod(MethodTree tree, Void none) {
        String name = tree.getName().toString();
        check.same("rule 11: parameters of " + name, tree.getParameters().size() <= MOST_PARAMETERS, true);
        check.same("rule 11: lines of " + name, linesOf(tree) <= MOST_LINES, true);
        check.same("rule 6: a method named " + name, Set.of("equals", "hashCode", "toString").contains(name), false);
        return super.visitMethod(tree, none);
    }

    @Override
    public Void visitVariable(VariableTree tree, Void none) {
        String type = tree.getType().toString();
        check.same("rule 3: " + tree.getName() + " has the type " + type, TYPES.contains(type) || classes.contains(type), true);
        return super.visitVariable(tree, none);
    }

    @Override
    public Void visitThrow(ThrowTree tree, Void none) {
        ExpressionTree thrown = tree.getExpression();
        boolean allowed = thrown instanceof NewClassTree made && EXCEPTIONS.contains(made.getIdentifier().toString())
                && made.getClassBody() == null
                && (made.getArguments().isEmpty() || made.getArguments().size() == 1 && isText(made.getArguments().get(0)));
        check.same("rule 6: " + tree, allowed, true);
        for (Tree above : getCurrentPath()) {
            boolean inConstructor = above instanceof MethodTree method && method.getName().contentEquals("<init>");
            check.same("rule 6: in a constructor: " + tree, inConstructor, false);
        }
        return super.visitThrow(tree, none);
    }

    private static boolean isText(ExpressionTree argument) {
        return argument instanceof LiteralTree && argument.getKind() == Tree.Kind.STRING_LITERAL;
    }

    @Override
    public Void visitTry(TryTree tree, Void none) {
        check.same("rule 6: finally", tree.getFinallyBlock() != null, false);
        check.same("rule 6: try with resources", tree.getResources().isEmpty(), true);
        return super.visitTry(tree, none);
    }

    @Override
    public Void visitMemberSelect(MemberSelectTree tree, Void none) {
        if (tree.getExpression() instanceof IdentifierTree owner && Character.isUpperCase(owner.getName().charAt(0))) {
            String name = owner.getName().toString();
            check.same("rule 4: " + tree, LIBRARY.contains(name) || classes.contains(name), true);
            check.same("rule 4: " + tree, tree.getIdentifier().toString().endsWith("Exact"), false);
            check.same("rule 4: " + tree, name.equals("System") && !tree.getIdentifier().contentEquals("arraycopy"), false);
        }
        return super.visitMemberSelect(tree, none);
    }

    @Override
    public Void visitLambdaExpression(LambdaExpressionTree tree, Void none) {
        refuse("rule 2: a lambda", tree);
        return super.visitLambdaExpression(tree, none);
    }

    @Override
    public Void visitMemberReference(MemberReferenceTree tree, Void none) {
        refuse("rule 2: a method reference", tree);
        return super.visitMemberReference(tree, none);
    }

    @Override
    public Void visitSynchronized(SynchronizedTree tree, Void none) {
        refuse("rule 6: synchronized", tree);
        return super.visitSynchronized(tree, none);
    }

    @Override
    public Void visitAssert(AssertTree tree, Void none) {
        refuse("rule 6: assert", tree);
        return super.visitAssert(tree, none);
    }

    @Override
    public Void visitForLoop(ForLoopTree tree, Void none) {
        check.same("rule 9: the end of a loop", tree.getCondition() != null, true);
        return super.visitForLoop(tree, none);
    }

    @Override
    public Void visitWhileLoop(WhileLoopTree tree, Void none) {
        check.same("rule 9: the end of a loop", tree.getCondition().toString().contains("true"), false);
        return super.visitWhileLoop(tree, none);
    }

    @Override
    public Void visitDoWhileLoop(DoWhileLoopTree tree, Void none) {
        check.same("rule 9: the end of a loop", tree.getCondition().toString().contains("true"), false);
        return super.visitDoWhileLoop(tree, none);
    }
}
