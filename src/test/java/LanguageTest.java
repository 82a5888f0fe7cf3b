import com.sun.source.tree.ArrayAccessTree;
import com.sun.source.tree.AssertTree;
import com.sun.source.tree.BinaryTree;
import com.sun.source.tree.BlockTree;
import com.sun.source.tree.CatchTree;
import com.sun.source.tree.ClassTree;
import com.sun.source.tree.CompilationUnitTree;
import com.sun.source.tree.CompoundAssignmentTree;
import com.sun.source.tree.DoWhileLoopTree;
import com.sun.source.tree.ExpressionTree;
import com.sun.source.tree.ForLoopTree;
import com.sun.source.tree.ImportTree;
import com.sun.source.tree.LambdaExpressionTree;
import com.sun.source.tree.LiteralTree;
import com.sun.source.tree.MemberReferenceTree;
import com.sun.source.tree.MethodInvocationTree;
import com.sun.source.tree.MethodTree;
import com.sun.source.tree.NewClassTree;
import com.sun.source.tree.ParenthesizedTree;
import com.sun.source.tree.PrimitiveTypeTree;
import com.sun.source.tree.SynchronizedTree;
import com.sun.source.tree.ThrowTree;
import com.sun.source.tree.Tree;
import com.sun.source.tree.TryTree;
import com.sun.source.tree.TypeCastTree;
import com.sun.source.tree.VariableTree;
import com.sun.source.tree.WhileLoopTree;
import com.sun.source.util.JavacTask;
import com.sun.source.util.TreePath;
import com.sun.source.util.TreePathScanner;
import com.sun.source.util.Trees;
import java.io.IOException;
import java.nio.file.Path;
import java.util.HashMap;
import java.util.List;
import java.util.Map;
import java.util.Set;
import java.util.TreeSet;
import java.util.regex.Pattern;
import javax.lang.model.element.Element;
import javax.lang.model.element.ElementKind;
import javax.lang.model.element.Modifier;
import javax.lang.model.element.TypeElement;
import javax.lang.model.element.VariableElement;
import javax.lang.model.type.TypeMirror;
import javax.tools.JavaCompiler;
import javax.tools.StandardJavaFileManager;
import javax.tools.ToolProvider;

/**
 * Wighall.java keeps to ../shared/LANGUAGE.md, as far as its text shows. What the program does without (try, lambda,
 * casts and the like) is refused here even where the rules would let it in: a wish for it is a reason to read them.
 */
public final class LanguageTest extends TreePathScanner<Void, Void> {
    private static final Set<String> IMPORTS = Set.of("java.util.ArrayList", "java.util.NoSuchElementException");

    private static final Set<String> LIBRARY = Set.of("java.util.ArrayList.add", "java.util.ArrayList.get",
            "java.util.ArrayList.size", "java.util.ArrayList.isEmpty", "java.lang.Math.abs", "java.lang.Math.max",
            "java.lang.Math.min", "java.lang.Integer.bitCount");

    private static final Set<String> EXCEPTIONS = Set.of("IllegalStateException", "IllegalArgumentException",
            "IndexOutOfBoundsException", "ArithmeticException", "UnsupportedOperationException",
            "NoSuchElementException");

    private static final Set<String> PLAIN_TYPES = Set.of("int", "long", "char", "boolean", "float", "double", "void",
            "int[]");

    private static final int MOST_PARAMETERS = 7;
    private static final int MOST_LINES = 60;
    private static final int MOST_CLASSES = 12;
    private static final int MOST_FIELDS = 20;
    private static final int MOST_CALLS_DEEP = 8;

    private static int wrong;

    private final CompilationUnitTree unit;
    private final Trees trees;
    private final Map<String, Set<String>> callsOf = new HashMap<>();
    private String method = "";
    private String body = "";
    private int classes;

    private LanguageTest(CompilationUnitTree unit, Trees trees) {
        this.unit = unit;
        this.trees = trees;
    }

    /** Another file than the class's own can be told, to see that what breaks a rule is found. */
    public static void main(String[] args) throws IOException {
        Path source = Path.of(args.length > 0 ? args[0] : "src/main/java/Wighall.java");
        JavaCompiler compiler = ToolProvider.getSystemJavaCompiler();
        try (StandardJavaFileManager files = compiler.getStandardFileManager(null, null, null)) {
            JavacTask task = (JavacTask) compiler.getTask(null, files, null, List.of("-proc:none"), null,
                    files.getJavaFileObjects(source));
            CompilationUnitTree unit = task.parse().iterator().next();
            task.analyze();
            LanguageTest test = new LanguageTest(unit, Trees.instance(task));
            test.lookAtFile();
            System.out.println(test.classes + " classes, " + test.callsOf.size() + " methods, " + wrong + " wrong");
        }
        if (wrong != 0) {
            System.exit(1);
        }
    }

    private void wrong(int rule, Tree at, String what) {
        wrong++;
        long line = unit.getLineMap().getLineNumber(start(at));
        System.out.println("rule " + rule + ", line " + line + ": " + what);
    }

    private long start(Tree tree) {
        return Math.max(0, trees.getSourcePositions().getStartPosition(unit, tree));
    }

    private int linesOf(Tree tree) {
        long end = trees.getSourcePositions().getEndPosition(unit, tree);
        return (int) (unit.getLineMap().getLineNumber(end) - unit.getLineMap().getLineNumber(start(tree)) + 1);
    }

    private Element elementOf(Tree tree) {
        return trees.getElement(new TreePath(getCurrentPath(), tree));
    }

    private boolean isText(ExpressionTree tree) {
        TypeMirror type = trees.getTypeMirror(new TreePath(getCurrentPath(), tree));
        return type != null && type.toString().equals("java.lang.String");
    }

    private static boolean isOwn(Element element) {
        return (element + ".").startsWith("Wighall.");
    }

    // ---- the file and its classes

    private void lookAtFile() {
        if (unit.getPackageName() != null || unit.getTypeDecls().size() != 1) {
            wrong(1, unit, "the file has a package line, or more than one class");
        }
        scan(unit, null);
        if (classes > MOST_CLASSES) {
            wrong(11, unit, classes + " classes");
        }
        for (String caller : callsOf.keySet()) {
            int deep = depth(caller, 1);
            if (deep > MOST_CALLS_DEEP) {
                wrong(11, unit, caller + " goes " + deep + " calls deep, or calls itself");
            }
        }
    }

    /** How deep calls of the class's own methods go; recursion is told as one call too deep. */
    private int depth(String caller, int from) {
        int deepest = from;
        if (from <= MOST_CALLS_DEEP) {
            for (String called : callsOf.getOrDefault(caller, Set.of())) {
                deepest = Math.max(deepest, depth(called, from + 1));
            }
        }
        return deepest;
    }

    @Override
    public Void visitImport(ImportTree tree, Void none) {
        if (!IMPORTS.contains(tree.getQualifiedIdentifier().toString()) || tree.isStatic()) {
            wrong(4, tree, tree.toString().trim());
        }
        return null;
    }

    @Override
    public Void visitClass(ClassTree tree, Void none) {
        classes++;
        Element element = trees.getElement(getCurrentPath());
        boolean isInside = element.getEnclosingElement() instanceof TypeElement;
        Set<Modifier> modifiers = element.getModifiers();
        if (isInside && !modifiers.containsAll(Set.of(Modifier.STATIC, Modifier.PRIVATE))) {
            wrong(1, tree, tree.getSimpleName() + " is not private and static");
        }
        if (!isInside && !modifiers.equals(Set.of(Modifier.PUBLIC, Modifier.FINAL))) {
            wrong(2, tree, tree.getSimpleName() + " stands in a method, or is not public and final");
        }
        if (element.getKind() != ElementKind.CLASS || tree.getExtendsClause() != null) {
            wrong(2, tree, tree.getSimpleName() + " is no plain class");
        }
        int fields = 0;
        for (Element inside : element.getEnclosedElements()) {
            fields += inside.getKind() == ElementKind.FIELD && !inside.getModifiers().contains(Modifier.STATIC) ? 1 : 0;
        }
        if (fields > MOST_FIELDS) {
            wrong(11, tree, tree.getSimpleName() + " has " + fields + " fields");
        }
        for (Tree inside : tree.getMembers()) {
            if (inside instanceof BlockTree) {
                wrong(5, inside, "a block outside methods");
            }
        }
        return super.visitClass(tree, none);
    }

    @Override
    public Void visitMethod(MethodTree tree, Void none) {
        Element element = trees.getElement(getCurrentPath());
        method = name(element);
        body = String.valueOf(tree.getBody());
        callsOf.computeIfAbsent(method, key -> new TreeSet<>());
        boolean isHidden = element.getModifiers().contains(Modifier.PRIVATE);
        if (!isHidden && isOwn(element.getEnclosingElement().getEnclosingElement())) {
            wrong(1, tree, method + " is not private");
        }
        if (tree.getParameters().size() > MOST_PARAMETERS) {
            wrong(11, tree, method + " has " + tree.getParameters().size() + " parameters");
        }
        if (linesOf(tree) > MOST_LINES) {
            wrong(11, tree, method + " has " + linesOf(tree) + " lines");
        }
        if (Set.of("equals", "hashCode", "toString").contains(tree.getName().toString())) {
            wrong(6, tree, method);
        }
        if (tree.getReturnType() != null) {
            lookAtType(tree, trees.getTypeMirror(new TreePath(getCurrentPath(), tree.getReturnType())));
        }
        return super.visitMethod(tree, none);
    }

    private static String name(Element method) {
        return method.getEnclosingElement() + "." + method.getSimpleName();
    }

    @Override
    public Void visitVariable(VariableTree tree, Void none) {
        VariableElement element = (VariableElement) trees.getElement(getCurrentPath());
        lookAtType(tree, element.asType());
        boolean isStatic = element.getKind() == ElementKind.FIELD && element.getModifiers().contains(Modifier.STATIC);
        if (isStatic && element.getConstantValue() == null) {
            wrong(5, tree, tree.getName() + " is static and no constant");
        }
        return super.visitVariable(tree, none);
    }

    private void lookAtType(Tree tree, TypeMirror type) {
        String name = type.toString();
        boolean isList = name.matches("java\\.util\\.ArrayList<Wighall\\.\\w+>");
        if (!PLAIN_TYPES.contains(name) && !isList && !name.matches("Wighall\\.\\w+")) {
            wrong(3, tree, "the type " + name);
        }
    }

    // ---- what a method may hold

    @Override
    public Void visitMethodInvocation(MethodInvocationTree tree, Void none) {
        Element called = elementOf(tree);
        String name = name(called);
        boolean isOfObject = called.getKind() == ElementKind.CONSTRUCTOR && !isOwn(called.getEnclosingElement());
        if (isOwn(called.getEnclosingElement())) {
            callsOf.computeIfAbsent(method, key -> new TreeSet<>()).add(name);
        } else if (!isOfObject && !LIBRARY.contains(name)) {
            wrong(4, tree, name);
        }
        if (name.equals("java.util.ArrayList.get")) {
            lookAtGet(tree);
        }
        return super.visitMethodInvocation(tree, none);
    }

    @Override
    public Void visitNewClass(NewClassTree tree, Void none) {
        String name = tree.getIdentifier().toString();
        boolean isThrown = getCurrentPath().getParentPath().getLeaf() instanceof ThrowTree;
        Element made = elementOf(tree);
        boolean isOwnClass = made != null && isOwn(made.getEnclosingElement());
        if (tree.getClassBody() != null || !isOwnClass && !name.startsWith("ArrayList<") && !isThrown) {
            wrong(4, tree, "new " + name);
        }
        if (name.startsWith("ArrayList<") && !tree.getArguments().isEmpty()) {
            wrong(4, tree, "an ArrayList of something");
        }
        return super.visitNewClass(tree, none);
    }

    @Override
    public Void visitThrow(ThrowTree tree, Void none) {
        boolean isRight = tree.getExpression() instanceof NewClassTree;
        if (isRight) {
            NewClassTree thrown = (NewClassTree) tree.getExpression();
            isRight = EXCEPTIONS.contains(thrown.getIdentifier().toString()) && thrown.getArguments().size() <= 1
                    && thrown.getArguments().stream().allMatch(text -> text instanceof LiteralTree);
        }
        if (!isRight || method.endsWith(".<init>")) {
            wrong(6, tree, tree.toString());
        }
        return super.visitThrow(tree, none);
    }

    @Override
    public Void visitBinary(BinaryTree tree, Void none) {
        boolean isText = isText(tree.getLeftOperand()) || isText(tree.getRightOperand());
        if (isText) {
            wrong(tree.getKind() == Tree.Kind.PLUS ? 10 : 6, tree, tree.toString());
        }
        if (tree.getKind() == Tree.Kind.DIVIDE || tree.getKind() == Tree.Kind.REMAINDER) {
            lookAtDivisor(tree);
        }
        return super.visitBinary(tree, none);
    }

    @Override
    public Void visitCompoundAssignment(CompoundAssignmentTree tree, Void none) {
        if (isText(tree.getVariable())) {
            wrong(10, tree, tree.toString());
        }
        if (tree.getKind() == Tree.Kind.DIVIDE_ASSIGNMENT || tree.getKind() == Tree.Kind.REMAINDER_ASSIGNMENT) {
            wrong(7, tree, tree + " without a look at the divisor");
        }
        return super.visitCompoundAssignment(tree, none);
    }

    @Override
    public Void visitLiteral(LiteralTree tree, Void none) {
        if (tree.getValue() instanceof String && !((String) tree.getValue()).chars().allMatch(c -> c > 0 && c < 128)) {
            wrong(4, tree, "a text with other signs than 1 to 127");
        }
        return super.visitLiteral(tree, none);
    }

    /** A loop counts up to a bound, by one, and by nothing else. */
    @Override
    public Void visitForLoop(ForLoopTree tree, Void none) {
        boolean isCounted = tree.getInitializer().size() == 1 && tree.getUpdate().size() == 1
                && tree.getInitializer().get(0) instanceof VariableTree;
        if (isCounted) {
            String counter = ((VariableTree) tree.getInitializer().get(0)).getName().toString();
            String body = tree.getStatement().toString();
            isCounted = String.valueOf(tree.getCondition()).startsWith(counter + " < ");
            isCounted &= tree.getUpdate().get(0).toString().startsWith(counter + "++");
            isCounted &= !body.matches("(?s).*\\b" + counter + "( [-+*/%&|^<>]*= |\\+\\+|--).*");
        }
        if (!isCounted) {
            wrong(9, tree, "a loop that is not counted up to a bound");
        }
        return super.visitForLoop(tree, none);
    }

    // ---- what is looked at before it is used (rule 7): the test stands in the same method

    @Override
    public Void visitArrayAccess(ArrayAccessTree tree, Void none) {
        if (!body.contains(tree.getExpression() + ".length")) {
            wrong(7, tree, tree + " without a look at the length");
        }
        return super.visitArrayAccess(tree, none);
    }

    private void lookAtGet(MethodInvocationTree tree) {
        String called = tree.getMethodSelect().toString();
        String list = called.substring(0, called.lastIndexOf('.'));
        if (!body.contains(list + ".size()")) {
            wrong(7, tree, tree + " without a look at the size");
        }
    }

    private void lookAtDivisor(BinaryTree tree) {
        ExpressionTree divisor = tree.getRightOperand();
        while (divisor instanceof ParenthesizedTree || divisor instanceof TypeCastTree) {
            divisor = divisor instanceof TypeCastTree ? ((TypeCastTree) divisor).getExpression()
                    : ((ParenthesizedTree) divisor).getExpression();
        }
        Element element = elementOf(divisor);
        boolean isConstant = divisor instanceof LiteralTree
                || element instanceof VariableElement && ((VariableElement) element).getConstantValue() != null;
        if (!isConstant && !body.matches("(?s).*\\b" + Pattern.quote(divisor.toString()) + " (==|>) .*")) {
            wrong(7, tree, tree + " without a look at the divisor");
        }
    }

    // ---- what the program does without

    @Override
    public Void visitTypeCast(TypeCastTree tree, Void none) {
        if (!(tree.getType() instanceof PrimitiveTypeTree)) {
            wrong(7, tree, tree.toString());
        }
        return super.visitTypeCast(tree, none);
    }

    @Override
    public Void visitWhileLoop(WhileLoopTree tree, Void none) {
        wrong(9, tree, "while");
        return super.visitWhileLoop(tree, none);
    }

    @Override
    public Void visitDoWhileLoop(DoWhileLoopTree tree, Void none) {
        wrong(9, tree, "do");
        return super.visitDoWhileLoop(tree, none);
    }

    @Override
    public Void visitTry(TryTree tree, Void none) {
        wrong(6, tree, "try");
        return super.visitTry(tree, none);
    }

    @Override
    public Void visitCatch(CatchTree tree, Void none) {
        wrong(6, tree, "catch");
        return super.visitCatch(tree, none);
    }

    @Override
    public Void visitSynchronized(SynchronizedTree tree, Void none) {
        wrong(6, tree, "synchronized");
        return super.visitSynchronized(tree, none);
    }

    @Override
    public Void visitAssert(AssertTree tree, Void none) {
        wrong(6, tree, "assert");
        return super.visitAssert(tree, none);
    }

    @Override
    public Void visitLambdaExpression(LambdaExpressionTree tree, Void none) {
        wrong(2, tree, "a lambda");
        return super.visitLambdaExpression(tree, none);
    }

    @Override
    public Void visitMemberReference(MemberReferenceTree tree, Void none) {
        wrong(2, tree, "a method reference");
        return super.visitMemberReference(tree, none);
    }
}
