import com.sun.source.tree.AssertTree;
import com.sun.source.tree.BinaryTree;
import com.sun.source.tree.BlockTree;
import com.sun.source.tree.ClassTree;
import com.sun.source.tree.CompilationUnitTree;
import com.sun.source.tree.ExpressionTree;
import com.sun.source.tree.ImportTree;
import com.sun.source.tree.LambdaExpressionTree;
import com.sun.source.tree.LiteralTree;
import com.sun.source.tree.MemberReferenceTree;
import com.sun.source.tree.MemberSelectTree;
import com.sun.source.tree.MethodTree;
import com.sun.source.tree.NewArrayTree;
import com.sun.source.tree.NewClassTree;
import com.sun.source.tree.PrimitiveTypeTree;
import com.sun.source.tree.SynchronizedTree;
import com.sun.source.tree.ThrowTree;
import com.sun.source.tree.Tree;
import com.sun.source.tree.TryTree;
import com.sun.source.tree.VariableTree;
import com.sun.source.tree.WhileLoopTree;
import com.sun.source.util.JavacTask;
import com.sun.source.util.SourcePositions;
import com.sun.source.util.TreePathScanner;
import com.sun.source.util.Trees;
import java.io.File;
import java.io.IOException;
import java.util.Set;
import javax.lang.model.element.Modifier;
import javax.lang.model.type.TypeKind;
import javax.tools.JavaCompiler;
import javax.tools.StandardJavaFileManager;
import javax.tools.ToolProvider;

/**
 * What can be seen of the rules of LANGUAGE.md in the source itself, for the promises 1 to 15 alike. It is stricter
 * than they are where the class has no need of what they leave (try, imports, generic types).
 */
public final class LanguageTest extends TreePathScanner<Void, Void> {
    private static final String SOURCE = "src/main/java/TutorLines.java";
    private static final Set<String> EXCEPTIONS = Set.of("IllegalStateException", "IllegalArgumentException");
    private static final Set<String> LIBRARY = Set.of("Math.min", "Math.max", "Math.floorDiv", "Long.compare");
    private static final Set<String> OF_LIBRARY = Set.of("Math", "Long", "Integer", "System", "Arrays", "String");
    private static final int MOST_CLASSES = 12;
    private static final int MOST_FIELDS = 20;
    private static final int MOST_PARAMETERS = 7;
    private static final int MOST_LINES_OF_A_METHOD = 60;

    private final CompilationUnitTree unit;
    private final SourcePositions positions;
    private int classes;
    private int methods;

    private LanguageTest(CompilationUnitTree unit, SourcePositions positions) {
        this.unit = unit;
        this.positions = positions;
    }

    public static void main(String[] args) throws IOException {
        JavaCompiler compiler = ToolProvider.getSystemJavaCompiler();
        try (StandardJavaFileManager files = compiler.getStandardFileManager(null, null, null)) {
            JavacTask task = (JavacTask) compiler.getTask(null, files, null, null, null,
                    files.getJavaFileObjects(new File(SOURCE)));
            for (CompilationUnitTree unit : task.parse()) {
                LanguageTest test = new LanguageTest(unit, Trees.instance(task).getSourcePositions());
                test.scan(unit, null);
                Check.same("methods were seen", test.methods > 50, true);
                Check.same("at most some twelve classes: " + test.classes, test.classes <= MOST_CLASSES, true);
            }
        }
        Check.finish();
    }

    private void rule(int number, Tree where, boolean kept) {
        Check.same("rule " + number + " at line " + lineOf(positions.getStartPosition(unit, where)), kept, true);
    }

    private long lineOf(long position) {
        return unit.getLineMap().getLineNumber(position);
    }

    @Override
    public Void visitCompilationUnit(CompilationUnitTree node, Void none) {
        Check.same("no package line", node.getPackageName() == null, true);
        return super.visitCompilationUnit(node, none);
    }

    @Override
    public Void visitImport(ImportTree node, Void none) {
        rule(4, node, false);
        return super.visitImport(node, none);
    }

    @Override
    public Void visitClass(ClassTree node, Void none) {
        classes++;
        Set<Modifier> flags = node.getModifiers().getFlags();
        boolean outside = getCurrentPath().getParentPath().getLeaf() == unit;
        rule(1, node, outside ? flags.equals(Set.of(Modifier.PUBLIC, Modifier.FINAL))
                : flags.contains(Modifier.STATIC) && !flags.contains(Modifier.PUBLIC));
        int fields = 0;
        for (Tree member : node.getMembers()) {
            if (member instanceof VariableTree field) {
                boolean isStatic = field.getModifiers().getFlags().contains(Modifier.STATIC);
                rule(5, field, !isStatic || field.getModifiers().getFlags().contains(Modifier.FINAL));
                fields += isStatic ? 0 : 1;
            }
            rule(5, member, !(member instanceof BlockTree));
        }
        rule(11, node, fields <= MOST_FIELDS);
        return super.visitClass(node, none);
    }

    @Override
    public Void visitMethod(MethodTree node, Void none) {
        methods++;
        rule(11, node, node.getParameters().size() <= MOST_PARAMETERS);
        long first = lineOf(positions.getStartPosition(unit, node));
        long last = lineOf(positions.getEndPosition(unit, node));
        rule(11, node, last - first < MOST_LINES_OF_A_METHOD);
        return super.visitMethod(node, none);
    }

    @Override
    public Void visitPrimitiveType(PrimitiveTypeTree node, Void none) {
        rule(3, node, node.getPrimitiveTypeKind() != TypeKind.DOUBLE && node.getPrimitiveTypeKind() != TypeKind.FLOAT);
        return super.visitPrimitiveType(node, none);
    }

    @Override
    public Void visitMemberSelect(MemberSelectTree node, Void none) {
        if (OF_LIBRARY.contains(node.getExpression().toString())) {
            rule(4, node, LIBRARY.contains(node.toString()));
        }
        return super.visitMemberSelect(node, none);
    }

    @Override
    public Void visitThrow(ThrowTree node, Void none) {
        ExpressionTree thrown = node.getExpression();
        rule(6, node, thrown instanceof NewClassTree made && EXCEPTIONS.contains(made.getIdentifier().toString())
                && made.getArguments().isEmpty());
        return super.visitThrow(node, none);
    }

    @Override
    public Void visitTry(TryTree node, Void none) {
        rule(6, node, false);
        return super.visitTry(node, none);
    }

    @Override
    public Void visitSynchronized(SynchronizedTree node, Void none) {
        rule(6, node, false);
        return super.visitSynchronized(node, none);
    }

    @Override
    public Void visitAssert(AssertTree node, Void none) {
        rule(6, node, false);
        return super.visitAssert(node, none);
    }

    @Override
    public Void visitLambdaExpression(LambdaExpressionTree node, Void none) {
        rule(2, node, false);
        return super.visitLambdaExpression(node, none);
    }

    @Override
    public Void visitMemberReference(MemberReferenceTree node, Void none) {
        rule(2, node, false);
        return super.visitMemberReference(node, none);
    }

    @Override
    public Void visitWhileLoop(WhileLoopTree node, Void none) {
        rule(9, node, !node.getCondition().toString().equals("(true)"));
        return super.visitWhileLoop(node, none);
    }

    @Override
    public Void visitBinary(BinaryTree node, Void none) {
        rule(10, node, !isText(node.getLeftOperand()) && !isText(node.getRightOperand()));
        return super.visitBinary(node, none);
    }

    private static boolean isText(ExpressionTree operand) {
        return operand instanceof LiteralTree literal && literal.getValue() instanceof String;
    }

    /** Rule 12, and the one room of a run: what calls need is made in constructors and used again. */
    @Override
    public Void visitNewClass(NewClassTree node, Void none) {
        rule(12, node, EXCEPTIONS.contains(node.getIdentifier().toString()) || isInConstruction());
        return super.visitNewClass(node, none);
    }

    @Override
    public Void visitNewArray(NewArrayTree node, Void none) {
        rule(12, node, isInConstruction());
        return super.visitNewArray(node, none);
    }

    private boolean isInConstruction() {
        for (Tree around : getCurrentPath()) {
            if (around instanceof MethodTree method) {
                return method.getReturnType() == null;
            }
        }
        return true;
    }
}
