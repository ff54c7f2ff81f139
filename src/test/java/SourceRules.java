import com.sun.source.tree.ArrayAccessTree;
import com.sun.source.tree.AssertTree;
import com.sun.source.tree.BinaryTree;
import com.sun.source.tree.BlockTree;
import com.sun.source.tree.ClassTree;
import com.sun.source.tree.CompilationUnitTree;
import com.sun.source.tree.CompoundAssignmentTree;
import com.sun.source.tree.DoWhileLoopTree;
import com.sun.source.tree.EnhancedForLoopTree;
import com.sun.source.tree.ExpressionTree;
import com.sun.source.tree.ForLoopTree;
import com.sun.source.tree.IdentifierTree;
import com.sun.source.tree.ImportTree;
import com.sun.source.tree.LambdaExpressionTree;
import com.sun.source.tree.LiteralTree;
import com.sun.source.tree.MemberReferenceTree;
import com.sun.source.tree.MethodInvocationTree;
import com.sun.source.tree.MethodTree;
import com.sun.source.tree.NewArrayTree;
import com.sun.source.tree.NewClassTree;
import com.sun.source.tree.PackageTree;
import com.sun.source.tree.ParenthesizedTree;
import com.sun.source.tree.SwitchTree;
import com.sun.source.tree.SynchronizedTree;
import com.sun.source.tree.ThrowTree;
import com.sun.source.tree.Tree;
import com.sun.source.tree.TryTree;
import com.sun.source.tree.TypeCastTree;
import com.sun.source.tree.UnaryTree;
import com.sun.source.tree.VariableTree;
import com.sun.source.tree.WhileLoopTree;
import com.sun.source.util.JavacTask;
import com.sun.source.util.TreePath;
import com.sun.source.util.TreePathScanner;
import com.sun.source.util.TreeScanner;
import com.sun.source.util.Trees;
import java.io.IOException;
import java.net.URI;
import java.util.ArrayList;
import java.util.EnumSet;
import java.util.LinkedHashMap;
import java.util.LinkedHashSet;
import java.util.List;
import java.util.Map;
import java.util.Set;
import javax.lang.model.element.Element;
import javax.lang.model.element.ElementKind;
import javax.lang.model.element.ExecutableElement;
import javax.lang.model.element.Modifier;
import javax.lang.model.element.TypeElement;
import javax.lang.model.element.VariableElement;
import javax.lang.model.type.ArrayType;
import javax.lang.model.type.DeclaredType;
import javax.lang.model.type.TypeKind;
import javax.lang.model.type.TypeMirror;
import javax.tools.JavaFileObject;
import javax.tools.SimpleJavaFileObject;
import javax.tools.ToolProvider;

/**
 * Reads a source with the compiler and tells where it leaves the rules of LANGUAGE.md. It is stricter where the
 * program needs less than the rules leave: no try, no library class but String, Math, Integer and Long, and objects
 * are made in constructors alone (but for exceptions).
 */
final class SourceRules extends TreePathScanner<Void, Void> {
    private static final Set<String> EXCEPTIONS = Set.of("IllegalStateException", "IllegalArgumentException",
            "IndexOutOfBoundsException", "ArithmeticException", "UnsupportedOperationException",
            "NoSuchElementException", "RuntimeException");
    private static final Map<String, Set<String>> LIBRARY = Map.of(
            "java.lang.Math", Set.of("floorDiv", "floorMod", "min", "max", "abs"),
            "java.lang.Long", Set.of("compare", "min", "max", "signum"),
            "java.lang.Integer", Set.of("compare", "min", "max", "signum"),
            "java.lang.String", Set.of("length", "charAt", "isEmpty", "equals", "indexOf", "substring", "toCharArray"));
    private static final Set<Tree.Kind> COMPARISONS = EnumSet.of(Tree.Kind.LESS_THAN, Tree.Kind.LESS_THAN_EQUAL,
            Tree.Kind.GREATER_THAN, Tree.Kind.GREATER_THAN_EQUAL, Tree.Kind.EQUAL_TO, Tree.Kind.NOT_EQUAL_TO);
    private static final Set<Tree.Kind> DOUBLE_SIGNS = EnumSet.of(Tree.Kind.PLUS, Tree.Kind.MINUS,
            Tree.Kind.MULTIPLY, Tree.Kind.DIVIDE);
    private static final Set<Tree.Kind> DIVISIONS = EnumSet.of(Tree.Kind.DIVIDE, Tree.Kind.REMAINDER,
            Tree.Kind.DIVIDE_ASSIGNMENT, Tree.Kind.REMAINDER_ASSIGNMENT);
    private static final Set<String> OF_ALL_OBJECTS = Set.of("equals", "hashCode", "toString", "finalize", "clone");

    private final Trees trees;
    private final CompilationUnitTree unit;
    private final List<String> faults = new ArrayList<>();
    private final Map<Element, Set<Element>> calls = new LinkedHashMap<>();
    private int classes = 0;

    private SourceRules(Trees trees, CompilationUnitTree unit) {
        this.trees = trees;
        this.unit = unit;
    }

    /** Each fault begins with the number of the rule. */
    static List<String> faults(String source) throws IOException {
        JavaFileObject file = new SimpleJavaFileObject(URI.create("string:///TimeDesk.java"),
                JavaFileObject.Kind.SOURCE) {
            @Override
            public CharSequence getCharContent(boolean isLenient) {
                return source;
            }
        };
        JavacTask task = (JavacTask) ToolProvider.getSystemJavaCompiler().getTask(null, null, told -> { },
                List.of("-proc:none"), null, List.of(file));
        CompilationUnitTree unit = task.parse().iterator().next();
        task.analyze();
        SourceRules rules = new SourceRules(Trees.instance(task), unit);
        rules.scan(unit, null);
        rules.check(11, rules.classes <= 12, "more than twelve classes");
        rules.depths();
        return rules.faults;
    }

    private void check(int rule, boolean isKept, String told) {
        if (!isKept) {
            Tree at = getCurrentPath() == null ? unit : getCurrentPath().getLeaf();
            faults.add(rule + ": " + told + ", line " + line(at));
        }
    }

    private long position(Tree tree) {
        return trees.getSourcePositions().getStartPosition(unit, tree);
    }

    private long line(Tree tree) {
        return unit.getLineMap().getLineNumber(Math.max(position(tree), 0));
    }

    private Element element(Tree tree) {
        return trees.getElement(TreePath.getPath(unit, tree));
    }

    private TypeMirror type(Tree tree) {
        return trees.getTypeMirror(TreePath.getPath(unit, tree));
    }

    private static boolean isReal(TypeMirror type) {
        return type.getKind() == TypeKind.DOUBLE || type.getKind() == TypeKind.FLOAT;
    }

    private static boolean isOwn(Element element) {
        Element outer = element;
        while (outer.getEnclosingElement() != null && outer.getEnclosingElement().getKind() != ElementKind.PACKAGE) {
            outer = outer.getEnclosingElement();
        }
        return outer.getSimpleName().contentEquals("TimeDesk");
    }

    private static boolean isType(TypeMirror type) {
        if (type.getKind().isPrimitive() || type.getKind() == TypeKind.VOID) {
            return true;
        }
        if (type.getKind() == TypeKind.ARRAY) {
            TypeMirror of = ((ArrayType) type).getComponentType();
            return of.getKind() == TypeKind.ARRAY ? ((ArrayType) of).getComponentType().getKind().isPrimitive()
                    : of.getKind().isPrimitive() || isOwnType(of);
        }
        return type.toString().equals("java.lang.String") || isOwnType(type);
    }

    private static boolean isOwnType(TypeMirror type) {
        return type.getKind() == TypeKind.DECLARED && isOwn(((DeclaredType) type).asElement());
    }

    private MethodTree method() {
        for (TreePath path = getCurrentPath(); path != null; path = path.getParentPath()) {
            if (path.getLeaf() instanceof MethodTree) {
                return (MethodTree) path.getLeaf();
            }
        }
        return null;
    }

    private void callsHere(Element called) {
        if (method() != null) {
            calls.computeIfAbsent(element(method()), made -> new LinkedHashSet<>()).add(called);
        }
    }

    private boolean isInConstructor() {
        return method() != null && method().getReturnType() == null;
    }

    @Override
    public Void visitPackage(PackageTree tree, Void none) {
        check(0, false, "a package line");
        return super.visitPackage(tree, none);
    }

    @Override
    public Void visitImport(ImportTree tree, Void none) {
        check(4, false, "an import");
        return super.visitImport(tree, none);
    }

    @Override
    public Void visitClass(ClassTree tree, Void none) {
        classes++;
        Set<Modifier> flags = tree.getModifiers().getFlags();
        Tree parent = getCurrentPath().getParentPath().getLeaf();
        boolean isOuter = parent == unit;
        check(2, isOuter || parent instanceof ClassTree, "a local class");
        check(1, isOuter ? flags.contains(Modifier.PUBLIC) && flags.contains(Modifier.FINAL)
                : flags.contains(Modifier.STATIC) && !flags.contains(Modifier.PUBLIC)
                && !flags.contains(Modifier.PROTECTED), "a class that may not be so");
        check(6, tree.getExtendsClause() == null || isType(type(tree.getExtendsClause())), "extends another class");
        int fields = 0;
        for (Tree member : tree.getMembers()) {
            check(5, !(member instanceof BlockTree && ((BlockTree) member).isStatic()), "a static block");
            if (member instanceof VariableTree) {
                VariableTree field = (VariableTree) member;
                fields += field.getModifiers().getFlags().contains(Modifier.STATIC) ? 0 : 1;
                field(field, isOuter);
            }
        }
        check(11, fields <= 20, "more than twenty fields");
        return super.visitClass(tree, none);
    }

    private void field(VariableTree field, boolean isOuter) {
        Set<Modifier> flags = field.getModifiers().getFlags();
        check(1, !isOuter || flags.contains(Modifier.PRIVATE), field.getName() + " can be seen");
        if (!flags.contains(Modifier.STATIC)) {
            return;
        }
        check(5, flags.contains(Modifier.FINAL), field.getName() + " is static and not final");
        boolean isArray = field.getInitializer() instanceof NewArrayTree
                && ((NewArrayTree) field.getInitializer()).getInitializers() != null;
        String type = type(field.getType()).toString();
        check(5, isArray ? Set.of("int[]", "long[]", "char[]", "byte[]").contains(type)
                : Set.of("int", "long", "boolean", "char", "java.lang.String").contains(type),
                field.getName() + " is static, of " + type);
    }

    @Override
    public Void visitMethod(MethodTree tree, Void none) {
        calls.computeIfAbsent(element(tree), made -> new LinkedHashSet<>());
        check(11, tree.getParameters().size() <= 7, "more than seven parameters");
        long end = trees.getSourcePositions().getEndPosition(unit, tree);
        check(11, unit.getLineMap().getLineNumber(end) - line(tree) < 60, "more than sixty lines");
        check(6, !OF_ALL_OBJECTS.contains(tree.getName().toString()), "a method of all objects");
        Set<Modifier> flags = tree.getModifiers().getFlags();
        boolean isOuter = getCurrentPath().getParentPath().getParentPath().getLeaf() == unit;
        check(1, !isOuter || flags.contains(Modifier.PUBLIC) || flags.contains(Modifier.PRIVATE),
                tree.getName() + " can be seen");
        if (tree.getReturnType() != null) {
            check(3, isType(type(tree.getReturnType())), "answers " + tree.getReturnType());
        }
        return super.visitMethod(tree, none);
    }

    @Override
    public Void visitVariable(VariableTree tree, Void none) {
        check(3, isType(trees.getTypeMirror(getCurrentPath())), tree.getName() + " is of another type");
        return super.visitVariable(tree, none);
    }

    @Override
    public Void visitLambdaExpression(LambdaExpressionTree tree, Void none) {
        check(2, false, "a lambda");
        return super.visitLambdaExpression(tree, none);
    }

    @Override
    public Void visitMemberReference(MemberReferenceTree tree, Void none) {
        check(2, false, "a method reference");
        return super.visitMemberReference(tree, none);
    }

    @Override
    public Void visitTry(TryTree tree, Void none) {
        check(6, false, "a try");
        return super.visitTry(tree, none);
    }

    @Override
    public Void visitSynchronized(SynchronizedTree tree, Void none) {
        check(6, false, "synchronized");
        return super.visitSynchronized(tree, none);
    }

    @Override
    public Void visitAssert(AssertTree tree, Void none) {
        check(6, false, "an assert");
        return super.visitAssert(tree, none);
    }

    @Override
    public Void visitThrow(ThrowTree tree, Void none) {
        boolean isWritten = false;
        if (tree.getExpression() instanceof NewClassTree) {
            NewClassTree made = (NewClassTree) tree.getExpression();
            isWritten = EXCEPTIONS.contains(made.getIdentifier().toString()) && made.getArguments().size() <= 1;
            for (ExpressionTree argument : made.getArguments()) {
                isWritten &= argument.getKind() == Tree.Kind.STRING_LITERAL;
            }
        }
        check(6, isWritten, "throws something else");
        check(6, !isInConstructor(), "throws in a constructor");
        return super.visitThrow(tree, none);
    }

    @Override
    public Void visitNewClass(NewClassTree tree, Void none) {
        boolean isThrown = getCurrentPath().getParentPath().getLeaf() instanceof ThrowTree;
        if (!isThrown) {
            check(4, isOwn(element(tree)), "makes a " + tree.getIdentifier());
            check(12, isInConstructor(), "makes an object in a call");
            callsHere(element(tree));
        }
        check(2, tree.getClassBody() == null, "an anonymous class");
        return super.visitNewClass(tree, none);
    }

    @Override
    public Void visitNewArray(NewArrayTree tree, Void none) {
        check(12, isInConstructor() || method() == null, "makes an array in a call");
        for (ExpressionTree length : tree.getDimensions()) {
            check(7, constant(length) instanceof Number && ((Number) constant(length)).longValue() >= 0,
                    "an array's length that is no constant");
        }
        return super.visitNewArray(tree, none);
    }

    @Override
    public Void visitMethodInvocation(MethodInvocationTree tree, Void none) {
        ExecutableElement called = (ExecutableElement) element(tree);
        String owner = ((TypeElement) called.getEnclosingElement()).getQualifiedName().toString();
        String name = called.getSimpleName().toString();
        if (isOwn(called)) {
            callsHere(called);
        } else if (!name.equals("<init>")) {
            check(4, LIBRARY.getOrDefault(owner, Set.of()).contains(name), "calls " + owner + "." + name);
            for (VariableElement parameter : called.getParameters()) {
                check(3, !isReal(parameter.asType()), "calls " + name + " on doubles");
            }
        }
        if (name.equals("floorDiv") || name.equals("floorMod")) {
            divides(tree.getArguments().get(1));
        }
        return super.visitMethodInvocation(tree, none);
    }

    @Override
    public Void visitBinary(BinaryTree tree, Void none) {
        TypeMirror left = type(tree.getLeftOperand());
        TypeMirror right = type(tree.getRightOperand());
        boolean isText = left.toString().equals("java.lang.String") || right.toString().equals("java.lang.String");
        check(isText && tree.getKind() == Tree.Kind.PLUS ? 10 : 6, !isText, "a sign between texts");
        if (isReal(left) || isReal(right)) {
            check(3, DOUBLE_SIGNS.contains(tree.getKind()) || COMPARISONS.contains(tree.getKind()),
                    "another sign between doubles");
        }
        if (DIVISIONS.contains(tree.getKind())) {
            divides(tree.getRightOperand());
        }
        return super.visitBinary(tree, none);
    }

    @Override
    public Void visitCompoundAssignment(CompoundAssignmentTree tree, Void none) {
        check(10, !type(tree.getVariable()).toString().equals("java.lang.String"), "joins texts");
        if (DIVISIONS.contains(tree.getKind())) {
            divides(tree.getExpression());
        }
        return super.visitCompoundAssignment(tree, none);
    }

    /** A divisor is a constant that is not 0, or a name that the method compares with 0 before. */
    private void divides(ExpressionTree divisor) {
        Object constant = constant(divisor);
        boolean isSafe = constant instanceof Number && ((Number) constant).doubleValue() != 0;
        if (!isSafe && divisor instanceof IdentifierTree) {
            isSafe = isCompared(((IdentifierTree) divisor).getName().toString(), position(divisor), true);
        }
        check(7, isSafe, "divides by " + divisor);
    }

    private Object constant(ExpressionTree tree) {
        if (tree instanceof LiteralTree) {
            return ((LiteralTree) tree).getValue();
        }
        Element element = element(tree);
        return element instanceof VariableElement ? ((VariableElement) element).getConstantValue() : null;
    }

    /** Each name of an index is compared, or given to a method that tells whether it is right, before. */
    @Override
    public Void visitArrayAccess(ArrayAccessTree tree, Void none) {
        new TreeScanner<Void, Void>() {
            @Override
            public Void visitIdentifier(IdentifierTree name, Void nothing) {
                check(7, constant(name) != null || isCompared(name.getName().toString(), position(tree), false),
                        "an index " + tree.getIndex() + " that is not looked at");
                return null;
            }
        }.scan(tree.getIndex(), null);
        return super.visitArrayAccess(tree, none);
    }

    private boolean isCompared(String name, long before, boolean isWithNought) {
        boolean[] found = {false};
        new TreeScanner<Void, Void>() {
            @Override
            public Void visitBinary(BinaryTree tree, Void nothing) {
                boolean isRight = !isWithNought || tree.getRightOperand().toString().equals("0");
                if (COMPARISONS.contains(tree.getKind()) && isRight && position(tree) < before) {
                    found[0] |= has(tree, name);
                }
                return super.visitBinary(tree, nothing);
            }

            @Override
            public Void visitMethodInvocation(MethodInvocationTree tree, Void nothing) {
                Element called = element(tree);
                if (!isWithNought && called.getSimpleName().toString().startsWith("is") && position(tree) < before) {
                    found[0] |= has(tree, name);
                }
                return super.visitMethodInvocation(tree, nothing);
            }
        }.scan(method(), null);
        return found[0];
    }

    private static boolean has(Tree tree, String name) {
        boolean[] found = {false};
        new TreeScanner<Void, Void>() {
            @Override
            public Void visitIdentifier(IdentifierTree identifier, Void nothing) {
                found[0] |= identifier.getName().contentEquals(name);
                return null;
            }
        }.scan(tree, null);
        return found[0];
    }

    @Override
    public Void visitForLoop(ForLoopTree tree, Void none) {
        boolean isCounted = false;
        for (Tree step : tree.getUpdate()) {
            isCounted |= counts(step, tree.getCondition());
        }
        check(9, isCounted, "a for whose end can not be seen");
        return super.visitForLoop(tree, none);
    }

    @Override
    public Void visitWhileLoop(WhileLoopTree tree, Void none) {
        check(9, counts(tree.getStatement(), tree.getCondition()), "a while whose end can not be seen");
        return super.visitWhileLoop(tree, none);
    }

    @Override
    public Void visitDoWhileLoop(DoWhileLoopTree tree, Void none) {
        check(9, counts(tree.getStatement(), tree.getCondition()), "a do whose end can not be seen");
        return super.visitDoWhileLoop(tree, none);
    }

    @Override
    public Void visitEnhancedForLoop(EnhancedForLoopTree tree, Void none) {
        check(12, type(tree.getExpression()).getKind() == TypeKind.ARRAY, "a for over something else");
        return super.visitEnhancedForLoop(tree, none);
    }

    /** Whether a name is counted up or down here that the condition compares with a bound, at its top or behind &&. */
    private static boolean counts(Tree where, ExpressionTree condition) {
        boolean[] found = {false};
        new TreeScanner<Void, Void>() {
            @Override
            public Void visitUnary(UnaryTree tree, Void nothing) {
                boolean isStep = tree.getKind().name().endsWith("CREMENT");
                found[0] |= isStep && isBound(condition, tree.getExpression().toString());
                return super.visitUnary(tree, nothing);
            }
        }.scan(where, null);
        return found[0];
    }

    private static boolean isBound(Tree condition, String name) {
        if (!(condition instanceof BinaryTree)) {
            return condition instanceof ParenthesizedTree
                    && isBound(((ParenthesizedTree) condition).getExpression(), name);
        }
        BinaryTree both = (BinaryTree) condition;
        if (both.getKind() == Tree.Kind.CONDITIONAL_AND) {
            return isBound(both.getLeftOperand(), name) || isBound(both.getRightOperand(), name);
        }
        return COMPARISONS.contains(both.getKind()) && both.getKind() != Tree.Kind.EQUAL_TO
                && both.getKind() != Tree.Kind.NOT_EQUAL_TO && both.getLeftOperand().toString().equals(name);
    }

    @Override
    public Void visitSwitch(SwitchTree tree, Void none) {
        check(10, type(tree.getExpression()).getKind().isPrimitive(), "a switch on something else");
        return super.visitSwitch(tree, none);
    }

    @Override
    public Void visitTypeCast(TypeCastTree tree, Void none) {
        check(6, type(tree.getType()).getKind().isPrimitive(), "a cast of objects");
        return super.visitTypeCast(tree, none);
    }

    @Override
    public Void visitLiteral(LiteralTree tree, Void none) {
        String value = String.valueOf(tree.getValue());
        check(3, value.chars().allMatch(c -> c <= 255), "a character above 255");
        return super.visitLiteral(tree, none);
    }

    private void depths() {
        for (Element method : calls.keySet()) {
            int depth = depth(method, new ArrayList<>());
            check(depth < 0 ? 8 : 11, depth >= 0 && depth <= 8, method + " goes " + depth + " calls deep");
        }
    }

    /** How many calls stand open at most, this one among them; -1 if one calls itself. */
    private int depth(Element method, List<Element> open) {
        if (open.contains(method)) {
            return -1;
        }
        open.add(method);
        int most = 0;
        for (Element called : calls.getOrDefault(method, Set.of())) {
            int depth = depth(called, open);
            if (depth < 0) {
                return -1;
            }
            most = Math.max(most, depth);
        }
        open.remove(open.size() - 1);
        return most + 1;
    }
}
