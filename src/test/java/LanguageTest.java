import com.sun.source.tree.AssertTree;
import com.sun.source.tree.BinaryTree;
import com.sun.source.tree.BlockTree;
import com.sun.source.tree.CatchTree;
import com.sun.source.tree.ClassTree;
import com.sun.source.tree.CompilationUnitTree;
import com.sun.source.tree.CompoundAssignmentTree;
import com.sun.source.tree.ExpressionTree;
import com.sun.source.tree.ForLoopTree;
import com.sun.source.tree.ImportTree;
import com.sun.source.tree.InstanceOfTree;
import com.sun.source.tree.LambdaExpressionTree;
import com.sun.source.tree.LiteralTree;
import com.sun.source.tree.MemberReferenceTree;
import com.sun.source.tree.MethodInvocationTree;
import com.sun.source.tree.MethodTree;
import com.sun.source.tree.NewClassTree;
import com.sun.source.tree.SwitchExpressionTree;
import com.sun.source.tree.SwitchTree;
import com.sun.source.tree.SynchronizedTree;
import com.sun.source.tree.ThrowTree;
import com.sun.source.tree.Tree;
import com.sun.source.tree.TryTree;
import com.sun.source.tree.TypeCastTree;
import com.sun.source.tree.VariableTree;
import com.sun.source.tree.WhileLoopTree;
import com.sun.source.util.JavacTask;
import com.sun.source.util.TreePath;
import com.sun.source.util.TreePathScanner;
import com.sun.source.util.Trees;
import java.io.IOException;
import java.nio.file.Path;
import java.util.HashMap;
import java.util.HashSet;
import java.util.List;
import java.util.Map;
import java.util.Set;
import javax.lang.model.element.Element;
import javax.lang.model.element.ElementKind;
import javax.lang.model.element.Modifier;
import javax.lang.model.type.TypeMirror;
import javax.tools.JavaCompiler;
import javax.tools.StandardJavaFileManager;
import javax.tools.ToolProvider;

/**
 * Holds the source, as javac reads it, against the rules of LANGUAGE.md that can be seen in it.
 * It takes less than the rules do: of the library about what the class uses, and no recursion.
 */
public final class LanguageTest extends TreePathScanner<Void, Void> {
    private static final Path SOURCE = Path.of("src/main/java/VaneUnion.java");
    private static final String FACE = "VaneUnion";
    private static final Set<String> TYPES = Set.of("int", "long", "short", "byte", "char", "boolean", "double", "float",
            "void", "java.lang.String", "java.lang.StringBuilder", "java.lang.Integer");
    private static final Set<String> LIBRARY = Set.of(
            "java.lang.String.length()", "java.lang.String.charAt(int)", "java.lang.String.isEmpty()",
            "java.lang.String.equals(java.lang.Object)", "java.lang.String.indexOf(int)",
            "java.lang.String.substring(int)", "java.lang.String.substring(int,int)", "java.lang.String.toCharArray()",
            "java.lang.String.String(char[])",
            "java.lang.StringBuilder.StringBuilder()", "java.lang.StringBuilder.append(char)",
            "java.lang.StringBuilder.append(java.lang.String)", "java.lang.StringBuilder.append(int)",
            "java.lang.StringBuilder.setCharAt(int,char)", "java.lang.StringBuilder.deleteCharAt(int)",
            "java.lang.StringBuilder.reverse()", "java.lang.StringBuilder.toString()",
            "java.lang.AbstractStringBuilder.charAt(int)", "java.lang.AbstractStringBuilder.length()",
            "java.lang.AbstractStringBuilder.setLength(int)", "java.lang.StringBuilder.charAt(int)",
            "java.lang.StringBuilder.length()", "java.lang.StringBuilder.setLength(int)",
            "java.lang.Math.min(int,int)", "java.lang.Math.max(int,int)", "java.lang.Math.abs(int)",
            "java.lang.Math.min(long,long)", "java.lang.Math.max(long,long)",
            "java.lang.Math.floorMod(int,int)", "java.lang.Math.floorDiv(int,int)");
    private static final Set<String> EXCEPTIONS = Set.of("java.lang.IllegalStateException",
            "java.lang.IllegalArgumentException", "java.lang.IndexOutOfBoundsException", "java.lang.ArithmeticException",
            "java.lang.UnsupportedOperationException", "java.util.NoSuchElementException", "java.lang.RuntimeException");
    private static final Set<String> CONSTANTS = Set.of("int", "long", "boolean", "char", "java.lang.String", "int[]",
            "long[]", "char[]", "byte[]");
    private static final int LONGEST_METHOD = 60;
    private static final int CLASS_LIMIT = 12;
    private static final int FIELD_LIMIT = 20;
    private static final int PARAMETER_LIMIT = 7;
    private static final int DEEPEST_CALLS = 8;

    private static int wrong;

    private final Trees trees;
    private final CompilationUnitTree unit;
    private final Map<Element, Set<Element>> calls = new HashMap<>();
    private int classes;

    private LanguageTest(Trees trees, CompilationUnitTree unit) {
        this.trees = trees;
        this.unit = unit;
    }

    public static void main(String[] args) throws IOException {
        JavaCompiler compiler = ToolProvider.getSystemJavaCompiler();
        StandardJavaFileManager files = compiler.getStandardFileManager(null, null, null);
        Path source = args.length == 0 ? SOURCE : Path.of(args[0]);
        JavacTask task = (JavacTask) compiler.getTask(null, files, null, List.of("-proc:none"), null,
                files.getJavaFileObjects(source));
        CompilationUnitTree unit = task.parse().iterator().next();
        task.analyze();
        LanguageTest test = new LanguageTest(Trees.instance(task), unit);
        test.scan(unit, null);
        test.checkWhole();
        System.out.println("LanguageTest: " + wrong + " wrong");
        if (wrong != 0) {
            System.exit(1);
        }
    }

    private void checkWhole() {
        if (unit.getPackageName() != null || unit.getTypeDecls().size() != 1) {
            tell(1, unit, "one class without a package is due");
        }
        if (classes > CLASS_LIMIT) {
            tell(11, unit, "too many classes: " + classes);
        }
        for (Element method : calls.keySet()) {
            int depth = depthOf(method, new HashSet<>());
            if (depth > DEEPEST_CALLS) {
                tell(11, unit, "calls too deep from " + method + ": " + depth);
            }
        }
    }

    // ---- classes, methods and fields

    @Override
    public Void visitImport(ImportTree tree, Void none) {
        String name = tree.getQualifiedIdentifier().toString();
        if (tree.isStatic() || !EXCEPTIONS.contains(name)) {
            tell(4, tree, "import of " + name);
        }
        return super.visitImport(tree, none);
    }

    @Override
    public Void visitClass(ClassTree tree, Void none) {
        classes++;
        Element element = element();
        Set<Modifier> modifiers = element.getModifiers();
        boolean isFace = element.getSimpleName().contentEquals(FACE);
        if (!isFace && (modifiers.contains(Modifier.PUBLIC) || modifiers.contains(Modifier.PROTECTED))) {
            tell(1, tree, "an inner class that is not private");
        }
        if (tree.getExtendsClause() != null && !isOwn(typeOf(tree.getExtendsClause()))) {
            tell(6, tree, "a class of another one");
        }
        int fields = 0;
        for (Tree member : tree.getMembers()) {
            if (member instanceof BlockTree) {
                tell(5, member, "an initialiser block");
            }
            if (member instanceof VariableTree field && !field.getModifiers().getFlags().contains(Modifier.STATIC)) {
                fields++;
            }
        }
        if (fields > FIELD_LIMIT) {
            tell(11, tree, "too many fields: " + fields);
        }
        return super.visitClass(tree, none);
    }

    @Override
    public Void visitMethod(MethodTree tree, Void none) {
        calls.computeIfAbsent(element(), method -> new HashSet<>());
        if (tree.getParameters().size() > PARAMETER_LIMIT) {
            tell(11, tree, "too many parameters");
        }
        long lines = lineOf(trees.getSourcePositions().getEndPosition(unit, tree)) - lineOf(startOf(tree)) + 1;
        if (lines > LONGEST_METHOD) {
            tell(11, tree, "too long a method: " + lines + " lines");
        }
        if (Set.of("equals", "hashCode", "toString", "finalize", "clone").contains(tree.getName().toString())) {
            tell(6, tree, "a method of every object");
        }
        if (tree.getReturnType() != null) {
            checkType(tree.getReturnType(), typeOf(tree.getReturnType()));
        }
        return super.visitMethod(tree, none);
    }

    @Override
    public Void visitVariable(VariableTree tree, Void none) {
        Element element = element();
        TypeMirror type = element.asType();
        checkType(tree, type);
        if (element.getKind() == ElementKind.FIELD && element.getModifiers().contains(Modifier.STATIC)) {
            boolean keepsValues = tree.getInitializer() != null && tree.getInitializer().toString().endsWith(".values()");
            if (!element.getModifiers().contains(Modifier.FINAL) || !CONSTANTS.contains(type.toString()) && !keepsValues) {
                tell(5, tree, "a static field that is no constant: " + tree.getName());
            }
        }
        return super.visitVariable(tree, none);
    }

    private void checkType(Tree tree, TypeMirror type) {
        String name = type.toString();
        String element = name.replace("[]", "");
        int dimensions = (name.length() - element.length()) / 2;
        boolean isNumbers = TYPES.contains(element) && element.indexOf('.') < 0;
        if (!TYPES.contains(element) && !isOwn(type) || dimensions > (isNumbers ? 2 : 1)) {
            tell(3, tree, "type " + name);
        }
    }

    // ---- calls

    @Override
    public Void visitMethodInvocation(MethodInvocationTree tree, Void none) {
        noteCall(tree);
        return super.visitMethodInvocation(tree, none);
    }

    @Override
    public Void visitNewClass(NewClassTree tree, Void none) {
        if (!EXCEPTIONS.contains(typeOf(tree).toString())) {
            noteCall(tree);
        } else if (!(getCurrentPath().getParentPath().getLeaf() instanceof ThrowTree)) {
            tell(6, tree, "an exception that is not thrown");
        }
        return super.visitNewClass(tree, none);
    }

    private void noteCall(Tree tree) {
        Element called = element();
        Element owner = called.getEnclosingElement();
        boolean isValues = called.toString().equals("values()");
        boolean isFirstOfConstructor = called.getKind() == ElementKind.CONSTRUCTOR && tree instanceof MethodInvocationTree;
        if (isValues && enclosing(MethodTree.class) != null) {
            tell(12, tree, "values() outside a constant");
        }
        if (!isOwn(owner.asType())) {
            String name = owner + "." + (called.getKind() == ElementKind.CONSTRUCTOR
                    ? called.toString().replaceFirst("^[\\w.]+", owner.getSimpleName().toString()) : called);
            if (!LIBRARY.contains(name) && !isFirstOfConstructor) {
                tell(4, tree, "call of " + name);
            }
        }
        TreePath caller = enclosing(MethodTree.class);
        if (caller != null && !isFirstOfConstructor) {
            calls.computeIfAbsent(trees.getElement(caller), method -> new HashSet<>()).add(called);
        }
    }

    /** The calls open at once; a call that comes back to an open one has no depth. */
    private int depthOf(Element method, Set<Element> open) {
        if (!open.add(method)) {
            tell(8, unit, "recursion of " + method);
            return 0;
        }
        int deepest = 0;
        for (Element called : calls.getOrDefault(method, Set.of())) {
            deepest = Math.max(deepest, depthOf(called, open));
        }
        open.remove(method);
        return deepest + 1;
    }

    // ---- exceptions

    @Override
    public Void visitThrow(ThrowTree tree, Void none) {
        boolean isWritten = tree.getExpression() instanceof NewClassTree made
                && EXCEPTIONS.contains(typeOf(made).toString())
                && (made.getArguments().isEmpty() || made.getArguments().get(0) instanceof LiteralTree);
        if (!isWritten) {
            tell(6, tree, "throw of something else");
        }
        TreePath method = enclosing(MethodTree.class);
        if (method == null || ((MethodTree) method.getLeaf()).getReturnType() == null) {
            tell(6, tree, "a throw in a constructor");
        }
        return super.visitThrow(tree, none);
    }

    @Override
    public Void visitTry(TryTree tree, Void none) {
        if (tree.getFinallyBlock() != null || !tree.getResources().isEmpty()) {
            tell(6, tree, "finally or resources");
        }
        TreePath method = enclosing(MethodTree.class);
        if (method == null || method.getLeaf().toString().contains("throw new ")) {
            tell(6, tree, "a try beside a throw");
        }
        for (CatchTree caught : tree.getCatches()) {
            String type = caught.getParameter().getType().toString();
            if (EXCEPTIONS.stream().noneMatch(name -> name.endsWith("." + type)) || type.equals("RuntimeException")) {
                tell(6, caught, "a catch of " + type);
            }
        }
        return super.visitTry(tree, none);
    }

    // ---- statements and expressions

    @Override
    public Void visitBinary(BinaryTree tree, Void none) {
        TypeMirror left = typeOf(tree.getLeftOperand());
        TypeMirror right = typeOf(tree.getRightOperand());
        checkOperation(tree, tree.getKind(), left, right);
        checkDivisor(tree, tree.getKind(), tree.getRightOperand(), right);
        return super.visitBinary(tree, none);
    }

    @Override
    public Void visitCompoundAssignment(CompoundAssignmentTree tree, Void none) {
        Tree.Kind kind = switch (tree.getKind()) {
            case PLUS_ASSIGNMENT -> Tree.Kind.PLUS;
            case DIVIDE_ASSIGNMENT -> Tree.Kind.DIVIDE;
            case REMAINDER_ASSIGNMENT -> Tree.Kind.REMAINDER;
            default -> Tree.Kind.OTHER;
        };
        checkOperation(tree, kind, typeOf(tree.getVariable()), typeOf(tree.getExpression()));
        checkDivisor(tree, kind, tree.getExpression(), typeOf(tree.getExpression()));
        return super.visitCompoundAssignment(tree, none);
    }

    private void checkOperation(Tree tree, Tree.Kind kind, TypeMirror left, TypeMirror right) {
        Set<String> sides = Set.copyOf(List.of(left.toString(), right.toString()));
        boolean isText = sides.contains("java.lang.String");
        boolean isFraction = sides.contains("double") || sides.contains("float");
        boolean isAgainstNull = sides.contains("<nulltype>") || sides.contains("<null>");
        if (kind == Tree.Kind.PLUS && isText) {
            tell(10, tree, "texts joined by +");
        }
        if (kind == Tree.Kind.REMAINDER && isFraction) {
            tell(3, tree, "a remainder of fractions");
        }
        boolean isSame = kind == Tree.Kind.EQUAL_TO || kind == Tree.Kind.NOT_EQUAL_TO;
        if (isSame && !isAgainstNull && (isText || left.toString().equals("java.lang.Integer") && left.equals(right))) {
            tell(6, tree, "== of two texts or Integers");
        }
    }

    /** A divisor of whole numbers is a constant, or stands in a choice that has looked at it. */
    private void checkDivisor(Tree tree, Tree.Kind kind, ExpressionTree divisor, TypeMirror type) {
        boolean isDivision = kind == Tree.Kind.DIVIDE || kind == Tree.Kind.REMAINDER;
        boolean isFraction = type.toString().equals("double") || type.toString().equals("float");
        boolean isConstant = divisor instanceof LiteralTree || divisor.toString().matches("[A-Z][A-Z_]+");
        if (isDivision && !isFraction && !isConstant && enclosingChoice() == null) {
            tell(7, tree, "a divisor that was not tested: " + divisor);
        }
    }

    private Tree enclosingChoice() {
        TreePath path = getCurrentPath();
        while (path != null && path.getLeaf().getKind() != Tree.Kind.METHOD) {
            if (path.getLeaf().getKind() == Tree.Kind.CONDITIONAL_EXPRESSION || path.getLeaf().getKind() == Tree.Kind.IF) {
                return path.getLeaf();
            }
            path = path.getParentPath();
        }
        return null;
    }

    @Override
    public Void visitLiteral(LiteralTree tree, Void none) {
        String text = tree.getValue() instanceof String || tree.getValue() instanceof Character ? tree.getValue().toString() : "";
        if (text.chars().anyMatch(sign -> sign < 1 || sign > 127)) {
            tell(4, tree, "a sign beyond 127");
        }
        return super.visitLiteral(tree, none);
    }

    @Override
    public Void visitTypeCast(TypeCastTree tree, Void none) {
        TypeMirror type = typeOf(tree.getType());
        if (!type.getKind().isPrimitive() && enclosingChoice() == null) {
            tell(6, tree, "a cast that was not tested");
        }
        return super.visitTypeCast(tree, none);
    }

    @Override
    public Void visitForLoop(ForLoopTree tree, Void none) {
        if (tree.getCondition() == null || tree.getUpdate().isEmpty()) {
            tell(9, tree, "a loop without a counter or its bound");
        }
        return super.visitForLoop(tree, none);
    }

    @Override
    public Void visitWhileLoop(WhileLoopTree tree, Void none) {
        if (!tree.getCondition().toString().matches(".*( < | > | <= | >= | != null).*")) {
            tell(9, tree, "a loop without a bound");
        }
        return super.visitWhileLoop(tree, none);
    }

    @Override
    public Void visitSwitch(SwitchTree tree, Void none) {
        if (typeOf(tree.getExpression()).toString().equals("java.lang.String")) {
            tell(10, tree, "a switch on texts");
        }
        return super.visitSwitch(tree, none);
    }

    @Override
    public Void visitSwitchExpression(SwitchExpressionTree tree, Void none) {
        tell(10, tree, "a switch that is an expression");
        return super.visitSwitchExpression(tree, none);
    }

    @Override
    public Void visitLambdaExpression(LambdaExpressionTree tree, Void none) {
        tell(2, tree, "a lambda");
        return super.visitLambdaExpression(tree, none);
    }

    @Override
    public Void visitMemberReference(MemberReferenceTree tree, Void none) {
        tell(2, tree, "a method reference");
        return super.visitMemberReference(tree, none);
    }

    @Override
    public Void visitSynchronized(SynchronizedTree tree, Void none) {
        tell(6, tree, "synchronized");
        return super.visitSynchronized(tree, none);
    }

    @Override
    public Void visitAssert(AssertTree tree, Void none) {
        tell(6, tree, "assert");
        return super.visitAssert(tree, none);
    }

    @Override
    public Void visitInstanceOf(InstanceOfTree tree, Void none) {
        if (!isOwn(typeOf(tree.getType()))) {
            tell(6, tree, "instanceof another class");
        }
        return super.visitInstanceOf(tree, none);
    }

    // ---- helpers

    private Element element() {
        return trees.getElement(getCurrentPath());
    }

    private TypeMirror typeOf(Tree tree) {
        return trees.getTypeMirror(new TreePath(getCurrentPath(), tree));
    }

    private TreePath enclosing(Class<? extends Tree> kind) {
        TreePath path = getCurrentPath();
        while (path != null && !kind.isInstance(path.getLeaf())) {
            path = path.getParentPath();
        }
        return path;
    }

    private static boolean isOwn(TypeMirror type) {
        return type.toString().matches("(java\\.lang\\.Enum<)?" + FACE + "\\b.*");
    }

    private long startOf(Tree tree) {
        return trees.getSourcePositions().getStartPosition(unit, tree);
    }

    private long lineOf(long position) {
        return position < 0 ? 0 : unit.getLineMap().getLineNumber(position);
    }

    private void tell(int rule, Tree tree, String what) {
        wrong++;
        System.out.println("rule " + rule + ", row " + lineOf(startOf(tree)) + ": " + what);
    }
}
