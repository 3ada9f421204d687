import com.sun.source.tree.AssertTree;
import com.sun.source.tree.BinaryTree;
import com.sun.source.tree.BlockTree;
import com.sun.source.tree.CatchTree;
import com.sun.source.tree.ClassTree;
import com.sun.source.tree.CompilationUnitTree;
import com.sun.source.tree.CompoundAssignmentTree;
import com.sun.source.tree.DoWhileLoopTree;
import com.sun.source.tree.EnhancedForLoopTree;
import com.sun.source.tree.ExpressionTree;
import com.sun.source.tree.ForLoopTree;
import com.sun.source.tree.ImportTree;
import com.sun.source.tree.InstanceOfTree;
import com.sun.source.tree.LambdaExpressionTree;
import com.sun.source.tree.LiteralTree;
import com.sun.source.tree.MemberReferenceTree;
import com.sun.source.tree.MethodInvocationTree;
import com.sun.source.tree.MethodTree;
import com.sun.source.tree.NewArrayTree;
import com.sun.source.tree.NewClassTree;
import com.sun.source.tree.SynchronizedTree;
import com.sun.source.tree.ThrowTree;
import com.sun.source.tree.Tree;
import com.sun.source.tree.TryTree;
import com.sun.source.tree.TypeCastTree;
import com.sun.source.tree.VariableTree;
import com.sun.source.tree.WhileLoopTree;
import com.sun.source.util.JavacTask;
import com.sun.source.util.TreePath;
import com.sun.source.util.TreePathScanner;
import com.sun.source.util.Trees;
import java.io.IOException;
import java.nio.file.Path;
import java.util.HashSet;
import java.util.List;
import java.util.Map;
import java.util.Set;
import java.util.TreeMap;
import java.util.TreeSet;
import javax.lang.model.element.Element;
import javax.lang.model.element.ElementKind;
import javax.lang.model.element.ExecutableElement;
import javax.lang.model.element.Modifier;
import javax.lang.model.element.VariableElement;
import javax.lang.model.type.ArrayType;
import javax.lang.model.type.TypeKind;
import javax.lang.model.type.TypeMirror;
import javax.tools.StandardJavaFileManager;
import javax.tools.ToolProvider;

/**
 * The rules of ../shared/LANGUAGE.md that the compiler's tree of the program shows. Where a rule allows what the program
 * does not use (try, casts, recursion, something made in a loop), the test is narrower than the rule.
 */
public final class LanguageTest extends TreePathScanner<Void, Void> {
    private static final Path PROGRAM = Path.of("src/main/java/Nestedfare.java");
    private static final Set<String> THROWN = Set.of("IllegalStateException", "IllegalArgumentException",
            "IndexOutOfBoundsException", "ArithmeticException", "UnsupportedOperationException",
            "NoSuchElementException", "RuntimeException");
    private static final Set<String> LIBRARY = Set.of("java.lang.Math.max", "java.lang.Math.min", "java.lang.Math.abs",
            "java.lang.Math.floorDiv", "java.lang.Math.floorMod", "java.lang.System.arraycopy", "java.util.Arrays.fill",
            "java.util.Arrays.copyOf", "java.util.Arrays.copyOfRange", "java.lang.Integer.compare", "java.lang.Long.compare");
    private static final Set<TypeKind> NUMBERS = Set.of(TypeKind.INT, TypeKind.LONG, TypeKind.SHORT, TypeKind.BYTE,
            TypeKind.CHAR, TypeKind.BOOLEAN, TypeKind.DOUBLE, TypeKind.FLOAT);
    private static final Set<String> CONSTANTS = Set.of("int", "long", "boolean", "char", "java.lang.String");

    private final CompilationUnitTree unit;
    private final Trees trees;
    private final Map<String, Set<String>> calls = new TreeMap<>();
    private final Set<String> classes = new HashSet<>();
    private int loops = 0;
    private int visited = 0;

    private LanguageTest(CompilationUnitTree unit, Trees trees) {
        this.unit = unit;
        this.trees = trees;
    }

    public static void main(String[] args) throws IOException {
        StandardJavaFileManager files = ToolProvider.getSystemJavaCompiler().getStandardFileManager(null, null, null);
        JavacTask task = (JavacTask) ToolProvider.getSystemJavaCompiler().getTask(null, files, null,
                List.of("--release", "17", "-proc:none"), null, files.getJavaFileObjects(PROGRAM));
        CompilationUnitTree unit = task.parse().iterator().next();
        task.analyze();
        LanguageTest test = new LanguageTest(unit, Trees.instance(task));
        test.scan(unit, null);
        test.signs();
        test.afterAll();
        Check.finish();
    }

    // ---- saying what is wrong

    private void holds(String rule, Tree where, boolean so) {
        visited++;
        long line = unit.getLineMap().getLineNumber(trees.getSourcePositions().getStartPosition(unit, where));
        Check.same("rule " + rule + ", line " + line, String.valueOf(so), "true");
    }

    private void never(String rule, Tree where) {
        holds(rule, where, false);
    }

    private TypeMirror typeOf(Tree tree) {
        return trees.getTypeMirror(new TreePath(getCurrentPath(), tree));
    }

    private Element elementOf(Tree tree) {
        return trees.getElement(new TreePath(getCurrentPath(), tree));
    }

    private static boolean own(String type) {
        return type.equals("Nestedfare") || type.startsWith("Nestedfare.");
    }

    private static String bare(String name) {
        return name.substring(name.lastIndexOf('.') + 1);
    }

    // ---- the file

    private void signs() throws IOException {
        for (char sign : unit.getSourceFile().getCharContent(true).toString().toCharArray()) {
            if (sign > 126 || sign < 32 && sign != '\n') {
                Check.same("rule 4, a sign of the program", sign, ' ');
            }
        }
        Check.same("rule 1, the package", String.valueOf(unit.getPackageName()), "null");
        Check.same("rule 1, classes beside the program's own", unit.getTypeDecls().size(), 1);
    }

    private void afterAll() {
        Check.same("rule 11, some twelve classes", String.valueOf(classes.size() <= 12), "true");
        for (String method : calls.keySet()) {
            int depth = depth(method, new TreeSet<>());
            Check.same("rules 8 and 11, calls from " + method + ", " + depth + " deep", String.valueOf(depth <= 8), "true");
        }
        Check.same("that the tree was read", String.valueOf(visited > 500 && calls.size() > 50), "true");
    }

    /** How many calls of the program's own methods are open at once, at the most; far too many if they call themselves. */
    private int depth(String method, Set<String> open) {
        if (!open.add(method)) {
            return 1000;
        }
        int deepest = 0;
        for (String called : calls.getOrDefault(method, Set.of())) {
            deepest = Math.max(deepest, depth(called, open));
        }
        open.remove(method);
        return deepest + 1;
    }

    // ---- classes, fields and types

    @Override
    public Void visitImport(ImportTree tree, Void none) {
        holds("4", tree, !tree.isStatic() && Set.of("java.util.Arrays", "java.util.ArrayList", "java.util.List")
                .contains(tree.getQualifiedIdentifier().toString()));
        return null;
    }

    @Override
    public Void visitClass(ClassTree tree, Void none) {
        Element type = trees.getElement(getCurrentPath());
        classes.add(type.toString());
        Set<Modifier> modifiers = tree.getModifiers().getFlags();
        if (getCurrentPath().getParentPath().getLeaf() == unit) {
            holds("1", tree, modifiers.equals(Set.of(Modifier.PUBLIC, Modifier.FINAL)));
        } else {
            holds("1", tree, modifiers.contains(Modifier.STATIC) && !modifiers.contains(Modifier.PUBLIC)
                    && !modifiers.contains(Modifier.PROTECTED));
            holds("2", tree, getCurrentPath().getParentPath().getLeaf() instanceof ClassTree);
        }
        holds("6", tree, tree.getExtendsClause() == null || !bare(tree.getExtendsClause().toString()).endsWith("Exception"));
        int changing = 0;
        for (Tree member : tree.getMembers()) {
            holds("5", member, !(member instanceof BlockTree));
            if (member instanceof VariableTree field && !field.getModifiers().getFlags().contains(Modifier.STATIC)) {
                changing++;
            }
        }
        holds("11", tree, changing <= 20);
        return super.visitClass(tree, none);
    }

    @Override
    public Void visitVariable(VariableTree tree, Void none) {
        TypeMirror type = trees.getTypeMirror(getCurrentPath());
        holds("3", tree, allowed(type));
        Element variable = trees.getElement(getCurrentPath());
        if (variable.getKind() == ElementKind.FIELD && variable.getModifiers().contains(Modifier.STATIC)) {
            holds("5", tree, variable.getModifiers().contains(Modifier.FINAL) && (CONSTANTS.contains(type.toString())
                    || Set.of("int[]", "long[]", "char[]", "byte[]").contains(type.toString())
                    && tree.getInitializer() instanceof NewArrayTree made && made.getInitializers() != null));
        }
        return super.visitVariable(tree, none);
    }

    private static boolean allowed(TypeMirror type) {
        if (type instanceof ArrayType outer) {
            TypeMirror inner = outer.getComponentType();
            return inner.getKind() == TypeKind.DECLARED && own(inner.toString()) || NUMBERS.contains(inner.getKind())
                    || inner instanceof ArrayType twice && NUMBERS.contains(twice.getComponentType().getKind());
        }
        String name = type.toString();
        return NUMBERS.contains(type.getKind()) || own(name) || name.equals("java.lang.String");
    }

    // ---- methods and calls

    @Override
    public Void visitMethod(MethodTree tree, Void none) {
        ExecutableElement method = (ExecutableElement) trees.getElement(getCurrentPath());
        calls.computeIfAbsent(nameOf(method), key -> new TreeSet<>());
        holds("11", tree, tree.getParameters().size() <= 7);
        long from = unit.getLineMap().getLineNumber(Math.max(0, trees.getSourcePositions().getStartPosition(unit, tree)));
        long to = unit.getLineMap().getLineNumber(Math.max(0, trees.getSourcePositions().getEndPosition(unit, tree)));
        holds("11", tree, to - from < 60);
        TypeMirror answer = method.getReturnType();
        holds("3", tree, answer.getKind() == TypeKind.VOID || allowed(answer));
        holds("6", tree, !Set.of("equals", "hashCode", "toString").contains(tree.getName().toString()));
        holds("6", tree, method.getThrownTypes().isEmpty() || method.getModifiers().contains(Modifier.PUBLIC));
        return super.visitMethod(tree, none);
    }

    private static String nameOf(ExecutableElement method) {
        return method.getEnclosingElement() + "." + method;
    }

    private MethodTree here() {
        for (TreePath path = getCurrentPath(); path != null; path = path.getParentPath()) {
            if (path.getLeaf() instanceof MethodTree method) {
                return method;
            }
        }
        return null;
    }

    private ExecutableElement hereElement() {
        MethodTree method = here();
        return method == null ? null : (ExecutableElement) trees.getElement(trees.getPath(unit, method));
    }

    @Override
    public Void visitMethodInvocation(MethodInvocationTree tree, Void none) {
        ExecutableElement called = (ExecutableElement) trees.getElement(getCurrentPath());
        ExecutableElement caller = hereElement();
        String of = called.getEnclosingElement().toString();
        if (called.getKind() == ElementKind.CONSTRUCTOR) {
            return super.visitMethodInvocation(tree, none);
        }
        if (own(of)) {
            holds("6, a call of the face", tree, !called.getModifiers().contains(Modifier.PUBLIC));
            if (caller != null) {
                calls.computeIfAbsent(nameOf(caller), key -> new TreeSet<>()).add(nameOf(called));
            }
        } else {
            holds("4, " + of + "." + called.getSimpleName(), tree, LIBRARY.contains(of + "." + called.getSimpleName()));
            for (ExpressionTree argument : tree.getArguments()) {
                TypeKind kind = typeOf(argument).getKind();
                holds("3", argument, kind != TypeKind.DOUBLE && kind != TypeKind.FLOAT);
            }
        }
        holds("12", tree, caller == null || caller.getKind() != ElementKind.CONSTRUCTOR);
        return super.visitMethodInvocation(tree, none);
    }

    @Override
    public Void visitNewClass(NewClassTree tree, Void none) {
        String made = typeOf(tree.getIdentifier()).toString();
        boolean thrown = getCurrentPath().getParentPath().getLeaf() instanceof ThrowTree;
        holds("4", tree, own(made) || thrown);
        holds("12", tree, loops == 0);
        holds("2", tree, tree.getClassBody() == null);
        return super.visitNewClass(tree, none);
    }

    @Override
    public Void visitNewArray(NewArrayTree tree, Void none) {
        holds("12", tree, loops == 0 && here() == null);
        return super.visitNewArray(tree, none);
    }

    // ---- exceptions

    @Override
    public Void visitThrow(ThrowTree tree, Void none) {
        boolean written = tree.getExpression() instanceof NewClassTree made
                && THROWN.contains(made.getIdentifier().toString()) && made.getArguments().size() <= 1
                && made.getArguments().stream().allMatch(text -> text instanceof LiteralTree);
        holds("6", tree, written);
        ExecutableElement method = hereElement();
        holds("6", tree, method != null && method.getKind() == ElementKind.METHOD);
        boolean told = method != null && method.getThrownTypes().stream()
                .anyMatch(type -> type.toString().equals(typeOf(tree.getExpression()).toString()));
        holds("6, what the document says", tree, told);
        return super.visitThrow(tree, none);
    }

    @Override
    public Void visitTry(TryTree tree, Void none) {
        never("6", tree);
        return super.visitTry(tree, none);
    }

    @Override
    public Void visitCatch(CatchTree tree, Void none) {
        never("6", tree);
        return super.visitCatch(tree, none);
    }

    @Override
    public Void visitAssert(AssertTree tree, Void none) {
        never("6", tree);
        return super.visitAssert(tree, none);
    }

    @Override
    public Void visitSynchronized(SynchronizedTree tree, Void none) {
        never("6", tree);
        return super.visitSynchronized(tree, none);
    }

    @Override
    public Void visitInstanceOf(InstanceOfTree tree, Void none) {
        never("6", tree);
        return super.visitInstanceOf(tree, none);
    }

    @Override
    public Void visitTypeCast(TypeCastTree tree, Void none) {
        holds("6", tree, NUMBERS.contains(typeOf(tree.getType()).getKind()));
        return super.visitTypeCast(tree, none);
    }

    @Override
    public Void visitLambdaExpression(LambdaExpressionTree tree, Void none) {
        never("2", tree);
        return super.visitLambdaExpression(tree, none);
    }

    @Override
    public Void visitMemberReference(MemberReferenceTree tree, Void none) {
        never("2", tree);
        return super.visitMemberReference(tree, none);
    }

    // ---- loops and reckoning

    @Override
    public Void visitForLoop(ForLoopTree tree, Void none) {
        holds("9", tree, tree.getCondition() instanceof BinaryTree && tree.getUpdate().size() == 1);
        loops++;
        super.visitForLoop(tree, none);
        loops--;
        return null;
    }

    @Override
    public Void visitEnhancedForLoop(EnhancedForLoopTree tree, Void none) {
        holds("12, an array", tree, typeOf(tree.getExpression()).getKind() == TypeKind.ARRAY);
        loops++;
        super.visitEnhancedForLoop(tree, none);
        loops--;
        return null;
    }

    @Override
    public Void visitWhileLoop(WhileLoopTree tree, Void none) {
        holds("9", tree, tree.getCondition().toString().contains(" > 0"));
        loops++;
        super.visitWhileLoop(tree, none);
        loops--;
        return null;
    }

    @Override
    public Void visitDoWhileLoop(DoWhileLoopTree tree, Void none) {
        never("9", tree);
        return super.visitDoWhileLoop(tree, none);
    }

    @Override
    public Void visitBinary(BinaryTree tree, Void none) {
        String left = typeOf(tree.getLeftOperand()).toString();
        String right = typeOf(tree.getRightOperand()).toString();
        boolean text = left.equals("java.lang.String") || right.equals("java.lang.String");
        switch (tree.getKind()) {
            case PLUS:
                holds("10", tree, !text);
                break;
            case EQUAL_TO:
            case NOT_EQUAL_TO:
                holds("6", tree, !text && !left.equals("java.lang.Integer"));
                break;
            case DIVIDE:
            case REMAINDER:
                holds("7, the divisor", tree, divides(tree.getRightOperand()));
                break;
            default:
                break;
        }
        return super.visitBinary(tree, none);
    }

    @Override
    public Void visitCompoundAssignment(CompoundAssignmentTree tree, Void none) {
        boolean divides = tree.getKind() == Tree.Kind.DIVIDE_ASSIGNMENT || tree.getKind() == Tree.Kind.REMAINDER_ASSIGNMENT;
        holds("7, the divisor", tree, !divides);
        holds("10", tree, !typeOf(tree.getVariable()).toString().equals("java.lang.String"));
        return super.visitCompoundAssignment(tree, none);
    }

    /** A constant, or a number that its method has compared with 0 (further above, or round the division). */
    private boolean divides(ExpressionTree by) {
        ExpressionTree number = by instanceof TypeCastTree cast ? cast.getExpression() : by;
        if (elementOf(number) instanceof VariableElement variable
                && variable.getConstantValue() instanceof Integer value) {
            return value != 0;
        }
        String body = here() == null ? "" : here().getBody().toString();
        return body.contains("if (" + number + " <= 0)") || body.contains("if (" + number + " > 0)");
    }
}
