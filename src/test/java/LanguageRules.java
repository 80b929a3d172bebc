import com.sun.source.tree.ArrayAccessTree;
import com.sun.source.tree.AssertTree;
import com.sun.source.tree.AssignmentTree;
import com.sun.source.tree.BinaryTree;
import com.sun.source.tree.BlockTree;
import com.sun.source.tree.ClassTree;
import com.sun.source.tree.CompilationUnitTree;
import com.sun.source.tree.CompoundAssignmentTree;
import com.sun.source.tree.DoWhileLoopTree;
import com.sun.source.tree.ExpressionTree;
import com.sun.source.tree.ForLoopTree;
import com.sun.source.tree.ImportTree;
import com.sun.source.tree.LambdaExpressionTree;
import com.sun.source.tree.LiteralTree;
import com.sun.source.tree.MemberReferenceTree;
import com.sun.source.tree.MethodInvocationTree;
import com.sun.source.tree.MethodTree;
import com.sun.source.tree.NewArrayTree;
import com.sun.source.tree.NewClassTree;
import com.sun.source.tree.SynchronizedTree;
import com.sun.source.tree.ThrowTree;
import com.sun.source.tree.Tree;
import com.sun.source.tree.TryTree;
import com.sun.source.tree.TypeCastTree;
import com.sun.source.tree.UnaryTree;
import com.sun.source.tree.VariableTree;
import com.sun.source.tree.WhileLoopTree;
import com.sun.source.util.TreePath;
import com.sun.source.util.TreePathScanner;
import java.util.ArrayList;
import java.util.List;
import java.util.Set;
import javax.lang.model.element.Element;
import javax.lang.model.element.ElementKind;
import javax.lang.model.element.ExecutableElement;
import javax.lang.model.element.Modifier;
import javax.lang.model.element.TypeElement;
import javax.lang.model.element.VariableElement;
import javax.lang.model.type.ArrayType;
import javax.lang.model.type.DeclaredType;
import javax.lang.model.type.TypeKind;
import javax.lang.model.type.TypeMirror;

/**
 * Looks for what LANGUAGE.md does not allow, as far as a look at the file can tell. It is narrower
 * than the rules where RecordWire has no need of what they leave: no exceptions, no while, no
 * library beside Integer, Long and Math, no object made outside of constructors.
 */
final class LanguageRules extends TreePathScanner<Void, Void> {
    private static final int MOST_PARAMETERS = 7;
    private static final int MOST_LINES = 60;
    private static final int MOST_CLASSES = 12;
    private static final int MOST_FIELDS = 20;
    private static final Set<String> LIBRARY =
            Set.of("java.lang.Integer", "java.lang.Long", "java.lang.Math");
    private static final Set<TypeKind> NUMBERS = Set.of(TypeKind.INT, TypeKind.LONG,
            TypeKind.SHORT, TypeKind.BYTE, TypeKind.CHAR);
    private static final Set<Tree.Kind> CHANGES = Set.of(Tree.Kind.PREFIX_INCREMENT,
            Tree.Kind.PREFIX_DECREMENT, Tree.Kind.POSTFIX_INCREMENT, Tree.Kind.POSTFIX_DECREMENT);

    private final Source source;
    private final List<Breach> breaches = new ArrayList<>();
    private int classes = 0;

    private LanguageRules(Source source) {
        this.source = source;
    }

    static List<Breach> breaches(Source source) {
        LanguageRules rules = new LanguageRules(source);
        rules.scan(source.unit(), null);
        List<Breach> all = new ArrayList<>(rules.breaches);
        all.addAll(CallDepths.breaches(source));
        return all;
    }

    @Override
    public Void visitCompilationUnit(CompilationUnitTree unit, Void nothing) {
        if (unit.getPackageName() != null) {
            breach(1, "The face: the class of the document", unit, "a package line");
        }
        super.visitCompilationUnit(unit, nothing);
        if (classes > MOST_CLASSES) {
            breach(11, "the file has at most some twelve classes", unit, classes + " classes");
        }
        return null;
    }

    @Override
    public Void visitImport(ImportTree tree, Void nothing) {
        breach(4, "The library: only what stands here.", tree, tree.toString().strip());
        return super.visitImport(tree, nothing);
    }

    @Override
    public Void visitClass(ClassTree tree, Void nothing) {
        classes++;
        boolean outermost = getCurrentPath().getParentPath().getLeaf() == source.unit();
        Set<Modifier> modifiers = tree.getModifiers().getFlags();
        if (!outermost && !modifiers.contains(Modifier.STATIC)) {
            breach(2, "static nested classes", tree, tree.getSimpleName() + " is not static");
        }
        long fields = tree.getMembers().stream().filter(LanguageRules::isObjectsField).count();
        if (fields > MOST_FIELDS) {
            breach(11, "a class some twenty fields beside its constants", tree, fields + " fields");
        }
        return super.visitClass(tree, nothing);
    }

    @Override
    public Void visitBlock(BlockTree tree, Void nothing) {
        if (tree.isStatic()) {
            breach(5, "no static initialiser block", tree, "one");
        }
        return super.visitBlock(tree, nothing);
    }

    @Override
    public Void visitMethod(MethodTree tree, Void nothing) {
        if (tree.getParameters().size() > MOST_PARAMETERS) {
            breach(11, "A method takes at most seven parameters.", tree, "" + tree.getName());
        }
        long lines = source.lastLine(tree) - source.firstLine(tree) + 1;
        if (lines > MOST_LINES) {
            breach(11, "Methods stay short (some sixty lines)", tree,
                    tree.getName() + " has " + lines);
        }
        return super.visitMethod(tree, nothing);
    }

    @Override
    public Void visitVariable(VariableTree tree, Void nothing) {
        Element variable = element(getCurrentPath());
        if (!mayBeHeld(variable.asType())) {
            breach(3, "Types: int, long, short, byte, char, boolean", tree,
                    tree.getName() + " is " + variable.asType());
        }
        if (isStaticField(variable) && !variable.getModifiers().contains(Modifier.FINAL)) {
            breach(5, "Static fields are final", tree, "" + tree.getName());
        }
        if (isStaticField(variable) && !isWrittenOut(variable, tree.getInitializer())) {
            breach(5, "written out in their initialiser and never changed", tree,
                    "" + tree.getName());
        }
        return super.visitVariable(tree, nothing);
    }

    @Override
    public Void visitAssignment(AssignmentTree tree, Void nothing) {
        staysIfStatic(tree.getVariable());
        return super.visitAssignment(tree, nothing);
    }

    @Override
    public Void visitCompoundAssignment(CompoundAssignmentTree tree, Void nothing) {
        staysIfStatic(tree.getVariable());
        if (tree.getKind() == Tree.Kind.DIVIDE_ASSIGNMENT
                || tree.getKind() == Tree.Kind.REMAINDER_ASSIGNMENT) {
            divides(tree.getExpression());
        }
        return super.visitCompoundAssignment(tree, nothing);
    }

    @Override
    public Void visitUnary(UnaryTree tree, Void nothing) {
        if (CHANGES.contains(tree.getKind())) {
            staysIfStatic(tree.getExpression());
        }
        return super.visitUnary(tree, nothing);
    }

    @Override
    public Void visitBinary(BinaryTree tree, Void nothing) {
        if (tree.getKind() == Tree.Kind.DIVIDE || tree.getKind() == Tree.Kind.REMAINDER) {
            divides(tree.getRightOperand());
        }
        TypeMirror type = type(getCurrentPath());
        if (tree.getKind() == Tree.Kind.PLUS && type.getKind() == TypeKind.DECLARED) {
            breach(10, "joining texts by StringBuilder (not by +)", tree, tree.toString());
        }
        return super.visitBinary(tree, nothing);
    }

    @Override
    public Void visitTypeCast(TypeCastTree tree, Void nothing) {
        if (!type(getCurrentPath()).getKind().isPrimitive()) {
            breach(6, "a cast only behind the test that makes it safe", tree, tree.toString());
        }
        return super.visitTypeCast(tree, nothing);
    }

    @Override
    public Void visitMethodInvocation(MethodInvocationTree tree, Void nothing) {
        Element method = element(getCurrentPath());
        if (method instanceof ExecutableElement called && !mayBeCalled(called)) {
            breach(4, "The library: only what stands here.", tree, tree.toString());
        }
        tree.getArguments().forEach(this::isNotHandedOut);
        constructorCallsOnlyItsOwn(tree, method);
        return super.visitMethodInvocation(tree, nothing);
    }

    @Override
    public Void visitNewClass(NewClassTree tree, Void nothing) {
        if (!isInSource(element(getCurrentPath()))) {
            breach(4, "The library: only what stands here.", tree, tree.toString());
        }
        tree.getArguments().forEach(this::isNotHandedOut);
        isMadeOnce(tree);
        return super.visitNewClass(tree, nothing);
    }

    @Override
    public Void visitNewArray(NewArrayTree tree, Void nothing) {
        isMadeOnce(tree);
        return super.visitNewArray(tree, nothing);
    }

    @Override
    public Void visitForLoop(ForLoopTree tree, Void nothing) {
        if (!LoopEnds.canBeSeen(tree)) {
            noEnd(tree);
        }
        return super.visitForLoop(tree, nothing);
    }

    @Override
    public Void visitWhileLoop(WhileLoopTree tree, Void nothing) {
        noEnd(tree);
        return super.visitWhileLoop(tree, nothing);
    }

    @Override
    public Void visitDoWhileLoop(DoWhileLoopTree tree, Void nothing) {
        noEnd(tree);
        return super.visitDoWhileLoop(tree, nothing);
    }

    @Override
    public Void visitLambdaExpression(LambdaExpressionTree tree, Void nothing) {
        breach(2, "no lambda, no method reference", tree, tree.toString());
        return super.visitLambdaExpression(tree, nothing);
    }

    @Override
    public Void visitMemberReference(MemberReferenceTree tree, Void nothing) {
        breach(2, "no lambda, no method reference", tree, tree.toString());
        return super.visitMemberReference(tree, nothing);
    }

    @Override
    public Void visitThrow(ThrowTree tree, Void nothing) {
        breach(6, "A call of the face throws exactly what and where the document says", tree,
                "the document says nowhere");
        return super.visitThrow(tree, nothing);
    }

    @Override
    public Void visitTry(TryTree tree, Void nothing) {
        breach(6, "try with one or more catches of these classes round calls of methods that throw",
                tree, "no method throws");
        return super.visitTry(tree, nothing);
    }

    @Override
    public Void visitSynchronized(SynchronizedTree tree, Void nothing) {
        breach(6, "No synchronized, assert", tree, "synchronized");
        return super.visitSynchronized(tree, nothing);
    }

    @Override
    public Void visitAssert(AssertTree tree, Void nothing) {
        breach(6, "No synchronized, assert", tree, tree.toString());
        return super.visitAssert(tree, nothing);
    }

    private void noEnd(Tree loop) {
        breach(9, "Every loop has an end that can be seen from its own lines", loop,
                loop.toString().lines().findFirst().orElse(""));
    }

    /** Only constructors and initialisers make objects, so that no run of calls can fill the room. */
    private void isMadeOnce(Tree made) {
        MethodTree method = enclosingMethod();
        if (method != null && !isConstructor(method)) {
            breach(12, "What a run makes is counted", made, made + " in " + method.getName());
        }
    }

    private void isNotHandedOut(ExpressionTree argument) {
        Element handed = element(new TreePath(getCurrentPath(), argument));
        if (isStaticField(handed) && handed.asType().getKind() == TypeKind.ARRAY) {
            breach(5, "written out in their initialiser and never changed", argument,
                    argument + " is handed on");
        }
        MethodTree method = enclosingMethod();
        boolean whileMade = method == null || isConstructor(method);
        boolean ofTheObject = handed != null && !handed.asType().getKind().isPrimitive()
                && (handed.getKind() == ElementKind.FIELD || argument.toString().equals("this"));
        if (whileMade && ofTheObject) {
            breach(12, "hands out nothing of the object that it makes", argument, "" + argument);
        }
    }

    private void constructorCallsOnlyItsOwn(MethodInvocationTree tree, Element called) {
        MethodTree method = enclosingMethod();
        if (method == null || !isConstructor(method) || called == null) {
            return;
        }
        boolean fixed = called.getKind() == ElementKind.CONSTRUCTOR
                || called.getEnclosingElement().getModifiers().contains(Modifier.FINAL)
                || called.getModifiers().stream().anyMatch(
                        Set.of(Modifier.FINAL, Modifier.PRIVATE, Modifier.STATIC)::contains);
        if (!fixed) {
            breach(12, "A constructor calls no method that another class could override", tree,
                    tree.toString());
        }
    }

    private void staysIfStatic(ExpressionTree changed) {
        ExpressionTree row = changed instanceof ArrayAccessTree access
                ? access.getExpression() : changed;
        if (isStaticField(element(new TreePath(getCurrentPath(), row)))) {
            breach(5, "written out in their initialiser and never changed", changed,
                    changed + " is changed");
        }
    }

    /** A divisor is a constant, and not 0. */
    private void divides(ExpressionTree divisor) {
        if (!(constant(divisor) instanceof Number number) || number.longValue() == 0) {
            breach(7, "a divisor before it divides", divisor, "" + divisor);
        }
    }

    private Object constant(ExpressionTree tree) {
        if (tree instanceof LiteralTree literal) {
            return literal.getValue();
        }
        Element named = element(new TreePath(getCurrentPath(), tree));
        return named instanceof VariableElement variable ? variable.getConstantValue() : null;
    }

    private boolean mayBeHeld(TypeMirror type) {
        if (type instanceof ArrayType row) {
            TypeMirror held = row.getComponentType();
            return held.getKind() == TypeKind.ARRAY
                    ? NUMBERS.contains(((ArrayType) held).getComponentType().getKind())
                    : mayBeHeld(held);
        }
        return type.getKind() == TypeKind.BOOLEAN || NUMBERS.contains(type.getKind())
                || type instanceof DeclaredType declared && isInSource(declared.asElement());
    }

    private boolean mayBeCalled(ExecutableElement called) {
        String owner = ((TypeElement) called.getEnclosingElement()).getQualifiedName().toString();
        boolean overNumbers = called.getParameters().stream()
                .allMatch(p -> NUMBERS.contains(p.asType().getKind()));
        boolean listed = LIBRARY.contains(owner) && overNumbers
                && called.getModifiers().contains(Modifier.STATIC)
                && !called.getSimpleName().toString().endsWith("Exact");
        return isInSource(called) || listed || called.getKind() == ElementKind.CONSTRUCTOR;
    }

    private boolean isInSource(Element element) {
        return element != null && source.trees().getPath(element) != null;
    }

    private MethodTree enclosingMethod() {
        for (TreePath path = getCurrentPath(); path != null; path = path.getParentPath()) {
            if (path.getLeaf() instanceof MethodTree method) {
                return method;
            }
        }
        return null;
    }

    private Element element(TreePath path) {
        return source.trees().getElement(path);
    }

    private TypeMirror type(TreePath path) {
        return source.trees().getTypeMirror(path);
    }

    private void breach(int rule, String words, Tree tree, String what) {
        breaches.add(new Breach(rule, words, source.firstLine(tree), what));
    }

    private static boolean isConstructor(MethodTree method) {
        return method.getName().contentEquals("<init>");
    }

    private static boolean isObjectsField(Tree member) {
        return member instanceof VariableTree field
                && !field.getModifiers().getFlags().contains(Modifier.STATIC);
    }

    private static boolean isStaticField(Element element) {
        return element != null && element.getKind() == ElementKind.FIELD
                && element.getModifiers().contains(Modifier.STATIC)
                && !element.getSimpleName().contentEquals("class");
    }

    private static boolean isWrittenOut(Element field, ExpressionTree initialiser) {
        return ((VariableElement) field).getConstantValue() != null
                || initialiser instanceof NewArrayTree row && row.getInitializers() != null;
    }
}
