import com.sun.source.tree.AssertTree;
import com.sun.source.tree.BinaryTree;
import com.sun.source.tree.BlockTree;
import com.sun.source.tree.ClassTree;
import com.sun.source.tree.CompilationUnitTree;
import com.sun.source.tree.CompoundAssignmentTree;
import com.sun.source.tree.ConditionalExpressionTree;
import com.sun.source.tree.DoWhileLoopTree;
import com.sun.source.tree.ExpressionTree;
import com.sun.source.tree.ForLoopTree;
import com.sun.source.tree.IfTree;
import com.sun.source.tree.ImportTree;
import com.sun.source.tree.InstanceOfTree;
import com.sun.source.tree.LambdaExpressionTree;
import com.sun.source.tree.LiteralTree;
import com.sun.source.tree.MemberReferenceTree;
import com.sun.source.tree.MethodInvocationTree;
import com.sun.source.tree.MethodTree;
import com.sun.source.tree.NewArrayTree;
import com.sun.source.tree.NewClassTree;
import com.sun.source.tree.SynchronizedTree;
import com.sun.source.tree.ThrowTree;
import com.sun.source.tree.Tree;
import com.sun.source.tree.TryTree;
import com.sun.source.tree.TypeCastTree;
import com.sun.source.tree.VariableTree;
import com.sun.source.tree.WhileLoopTree;
import com.sun.source.util.TreePath;
import com.sun.source.util.TreePathScanner;
import com.sun.source.util.Trees;
import java.util.ArrayList;
import java.util.LinkedHashMap;
import java.util.List;
import java.util.Map;
import java.util.Set;
import java.util.TreeSet;
import javax.lang.model.element.Element;
import javax.lang.model.element.ElementKind;
import javax.lang.model.element.Modifier;
import javax.lang.model.element.TypeElement;
import javax.lang.model.element.VariableElement;
import javax.lang.model.type.ArrayType;
import javax.lang.model.type.TypeKind;
import javax.lang.model.type.TypeMirror;

/** Goes over the class's text, as javac has read it, and tells what LANGUAGE.md does not leave. */
final class SourceLook extends TreePathScanner<Void, Void> {
    private static final Set<String> LIBRARY = Set.of("java.lang.String.length", "java.lang.String.charAt",
            "java.lang.String.isEmpty", "java.lang.String.equals", "java.lang.String.substring",
            "java.lang.String.toCharArray", "java.lang.System.arraycopy", "java.util.Arrays.copyOf",
            "java.util.Arrays.copyOfRange", "java.util.Arrays.fill", "java.lang.Object.<init>");
    private static final String NUMBERS = "java\\.lang\\.(Integer|Long|Math)\\."
            + "(compare|max|min|abs|bitCount|floorDiv|floorMod|signum|highestOneBit|lowestOneBit|numberOfTrailingZeros|numberOfLeadingZeros)";
    /** The one method that makes objects while calls go on: of six RULES at most. */
    private static final String MAKER = "made";
    private static final int LONGEST_METHOD = 60;
    private static final int MOST_PARAMETERS = 7;

    private final Trees trees;
    private final CompilationUnitTree unit;
    private final Set<String> face;
    final List<String> wrong = new ArrayList<>();
    final Map<String, Set<String>> calls = new LinkedHashMap<>();
    int looked;
    int classes;

    SourceLook(Trees trees, CompilationUnitTree unit, Set<String> face) {
        this.trees = trees;
        this.unit = unit;
        this.face = face;
    }

    private void due(int rule, Tree where, String what, boolean holds) {
        looked++;
        if (!holds) {
            long at = trees.getSourcePositions().getStartPosition(unit, where);
            wrong.add("line " + (at < 0 ? 0 : unit.getLineMap().getLineNumber(at)) + ", rule " + rule + ": " + what);
        }
    }

    private TypeMirror typeOf(Tree tree) {
        return trees.getTypeMirror(TreePath.getPath(unit, tree));
    }

    private static boolean isText(TypeMirror type) {
        return type != null && type.toString().matches("java\\.lang\\.(String|Integer)");
    }

    private static boolean isOwn(TypeMirror type) {
        return type.getKind() == TypeKind.DECLARED && type.toString().matches("RankFord(\\.\\w+)?");
    }

    private static boolean isAllowed(TypeMirror type) {
        if (type.getKind() == TypeKind.ARRAY) {
            TypeMirror part = ((ArrayType) type).getComponentType();
            boolean rows = part.getKind() == TypeKind.ARRAY
                    && ((ArrayType) part).getComponentType().getKind().isPrimitive();
            return rows || part.getKind().isPrimitive() || isOwn(part);
        }
        return type.getKind().isPrimitive() || isOwn(type) || type.toString().equals("java.lang.String");
    }

    private MethodTree methodAround() {
        for (TreePath path = getCurrentPath(); path != null; path = path.getParentPath()) {
            if (path.getLeaf() instanceof MethodTree method) {
                return method;
            }
        }
        return null;
    }

    private String nameOf(Element method) {
        return ((TypeElement) method.getEnclosingElement()).getQualifiedName() + "." + method;
    }

    private String caller() {
        MethodTree around = methodAround();
        return around == null ? "" : nameOf(trees.getElement(TreePath.getPath(unit, around)));
    }

    private void called(Element callee) {
        calls.computeIfAbsent(caller(), k -> new TreeSet<>()).add(nameOf(callee));
    }

    private boolean mayMake() {
        MethodTree around = methodAround();
        return around == null || around.getReturnType() == null || around.getName().contentEquals(MAKER);
    }

    @Override
    public Void visitImport(ImportTree tree, Void none) {
        due(4, tree, "" + tree, tree.getQualifiedIdentifier().toString().matches("java\\.util\\.(Arrays|ArrayList|List)"));
        return super.visitImport(tree, none);
    }

    @Override
    public Void visitClass(ClassTree tree, Void none) {
        classes++;
        boolean outer = getCurrentPath().getParentPath().getLeaf() instanceof CompilationUnitTree;
        boolean inside = getCurrentPath().getParentPath().getLeaf() instanceof ClassTree;
        Set<Modifier> flags = tree.getModifiers().getFlags();
        due(2, tree, "a class that is local or has no name", outer || inside);
        due(2, tree, tree.getSimpleName() + " is not static", outer || flags.contains(Modifier.STATIC));
        due(1, tree, tree.getSimpleName() + " is public", outer == flags.contains(Modifier.PUBLIC) && !flags.contains(Modifier.PROTECTED));
        int fields = 0;
        for (Tree member : tree.getMembers()) {
            boolean field = member instanceof VariableTree v && !v.getModifiers().getFlags().contains(Modifier.STATIC);
            fields += field ? 1 : 0;
            due(5, member, "a block that makes statics", !(member instanceof BlockTree));
        }
        due(11, tree, tree.getSimpleName() + " has " + fields + " fields", fields <= 20);
        return super.visitClass(tree, none);
    }

    @Override
    public Void visitMethod(MethodTree tree, Void none) {
        Set<Modifier> flags = tree.getModifiers().getFlags();
        String name = tree.getName().toString();
        Tree owner = getCurrentPath().getParentPath().getLeaf();
        boolean ofFace = owner instanceof ClassTree c && c.getSimpleName().contentEquals("RankFord");
        due(1, tree, name + " is seen from outside", !ofFace || flags.contains(Modifier.PUBLIC) || flags.contains(Modifier.PRIVATE));
        due(1, tree, name + " is private and of the face", !flags.contains(Modifier.PRIVATE) || !face.contains(name));
        due(6, tree, name + " throws", tree.getThrows().isEmpty());
        due(6, tree, name + " is synchronized", !flags.contains(Modifier.SYNCHRONIZED));
        due(6, tree, name, !name.matches("equals|hashCode|toString"));
        due(11, tree, name + " has too many parameters", tree.getParameters().size() <= MOST_PARAMETERS);
        long from = trees.getSourcePositions().getStartPosition(unit, tree);
        long to = trees.getSourcePositions().getEndPosition(unit, tree);
        boolean written = from >= 0 && to > from;
        long lines = written ? unit.getLineMap().getLineNumber(to) - unit.getLineMap().getLineNumber(from) + 1 : 0;
        due(11, tree, name + " has " + lines + " lines", lines <= LONGEST_METHOD);
        return super.visitMethod(tree, none);
    }

    @Override
    public Void visitVariable(VariableTree tree, Void none) {
        Element element = trees.getElement(getCurrentPath());
        due(3, tree, "" + tree, element != null && isAllowed(element.asType()));
        if (element != null && element.getKind() == ElementKind.FIELD && element.getModifiers().contains(Modifier.STATIC)) {
            due(5, tree, tree.getName() + " is not final", element.getModifiers().contains(Modifier.FINAL));
            boolean row = tree.getInitializer() instanceof NewArrayTree made && made.getInitializers() != null;
            due(5, tree, tree.getName() + " is no constant", row || ((VariableElement) element).getConstantValue() != null);
        }
        if (element != null && element.getKind() == ElementKind.FIELD && element.getEnclosingElement().toString().equals("RankFord")) {
            boolean seen = !element.getModifiers().contains(Modifier.PRIVATE);
            due(1, tree, tree.getName() + " is seen from outside", !seen || tree.getName().contentEquals("NONE"));
        }
        return super.visitVariable(tree, none);
    }

    @Override
    public Void visitMethodInvocation(MethodInvocationTree tree, Void none) {
        Element callee = trees.getElement(getCurrentPath());
        String owner = ((TypeElement) callee.getEnclosingElement()).getQualifiedName().toString();
        if (owner.startsWith("RankFord")) {
            called(callee);
        } else {
            String name = owner + "." + callee.getSimpleName();
            due(4, tree, name, LIBRARY.contains(name) || name.matches(NUMBERS));
            due(12, tree, name + " makes an object", !name.matches(".*\\.(copyOf|copyOfRange|substring|toCharArray)") || mayMake());
        }
        return super.visitMethodInvocation(tree, none);
    }

    @Override
    public Void visitNewClass(NewClassTree tree, Void none) {
        due(2, tree, "a class without a name", tree.getClassBody() == null);
        due(3, tree, "" + tree, isOwn(typeOf(tree)));
        due(12, tree, "an object is made by " + caller(), mayMake());
        called(trees.getElement(getCurrentPath()));
        return super.visitNewClass(tree, none);
    }

    @Override
    public Void visitNewArray(NewArrayTree tree, Void none) {
        due(12, tree, "an array is made by " + caller(), mayMake());
        return super.visitNewArray(tree, none);
    }

    @Override
    public Void visitBinary(BinaryTree tree, Void none) {
        Tree.Kind kind = tree.getKind();
        boolean texts = isText(typeOf(tree.getLeftOperand())) || isText(typeOf(tree.getRightOperand()));
        if (kind == Tree.Kind.EQUAL_TO || kind == Tree.Kind.NOT_EQUAL_TO) {
            due(6, tree, "" + tree, !texts);
        }
        if (kind == Tree.Kind.PLUS) {
            due(10, tree, "" + tree, !texts);
        }
        if (kind == Tree.Kind.DIVIDE || kind == Tree.Kind.REMAINDER) {
            due(7, tree, "" + tree, isLookedAt(tree.getRightOperand()));
        }
        return super.visitBinary(tree, none);
    }

    @Override
    public Void visitCompoundAssignment(CompoundAssignmentTree tree, Void none) {
        boolean divides = tree.getKind() == Tree.Kind.DIVIDE_ASSIGNMENT || tree.getKind() == Tree.Kind.REMAINDER_ASSIGNMENT;
        due(7, tree, "" + tree, !divides || isLookedAt(tree.getExpression()));
        due(10, tree, "" + tree, !isText(typeOf(tree.getVariable())));
        return super.visitCompoundAssignment(tree, none);
    }

    /** A divisor is a constant other than 0, or a condition around it names it. */
    private boolean isLookedAt(ExpressionTree divisor) {
        if (divisor instanceof LiteralTree literal) {
            return !literal.getValue().toString().matches("0L?");
        }
        Element element = trees.getElement(TreePath.getPath(unit, divisor));
        if (element instanceof VariableElement v && v.getConstantValue() instanceof Number n) {
            return n.longValue() != 0;
        }
        if (typeOf(divisor) != null && divisor.toString().matches("\\(\\w+ \\+ 1\\)")) {
            return true;
        }
        for (TreePath path = getCurrentPath(); path != null; path = path.getParentPath()) {
            Tree leaf = path.getLeaf();
            String condition = leaf instanceof IfTree i ? "" + i.getCondition()
                    : leaf instanceof ConditionalExpressionTree c ? "" + c.getCondition() : "";
            if (condition.matches(".*\\b" + java.util.regex.Pattern.quote("" + divisor) + " (>|==|!=) 0.*")) {
                return true;
            }
        }
        return false;
    }

    @Override
    public Void visitLiteral(LiteralTree tree, Void none) {
        if (tree.getValue() instanceof String text) {
            due(4, tree, "" + tree, text.chars().allMatch(c -> c > 0 && c < 128));
        }
        return super.visitLiteral(tree, none);
    }

    @Override
    public Void visitTypeCast(TypeCastTree tree, Void none) {
        due(6, tree, "" + tree, typeOf(tree.getType()).getKind().isPrimitive());
        return super.visitTypeCast(tree, none);
    }

    private void hasEnd(Tree loop, ExpressionTree condition) {
        due(9, loop, "a loop without an end", condition != null && !condition.toString().matches("\\(*true\\)*"));
    }

    @Override
    public Void visitForLoop(ForLoopTree tree, Void none) {
        hasEnd(tree, tree.getCondition());
        return super.visitForLoop(tree, none);
    }

    @Override
    public Void visitWhileLoop(WhileLoopTree tree, Void none) {
        hasEnd(tree, tree.getCondition());
        return super.visitWhileLoop(tree, none);
    }

    @Override
    public Void visitDoWhileLoop(DoWhileLoopTree tree, Void none) {
        hasEnd(tree, tree.getCondition());
        return super.visitDoWhileLoop(tree, none);
    }

    @Override
    public Void visitInstanceOf(InstanceOfTree tree, Void none) {
        due(6, tree, "" + tree, isOwn(typeOf(tree.getExpression())));
        return super.visitInstanceOf(tree, none);
    }

    @Override
    public Void visitLambdaExpression(LambdaExpressionTree tree, Void none) {
        due(2, tree, "a lambda", false);
        return super.visitLambdaExpression(tree, none);
    }

    @Override
    public Void visitMemberReference(MemberReferenceTree tree, Void none) {
        due(2, tree, "a method reference", false);
        return super.visitMemberReference(tree, none);
    }

    @Override
    public Void visitThrow(ThrowTree tree, Void none) {
        due(6, tree, "throw", false);
        return super.visitThrow(tree, none);
    }

    @Override
    public Void visitTry(TryTree tree, Void none) {
        due(6, tree, "try", false);
        return super.visitTry(tree, none);
    }

    @Override
    public Void visitSynchronized(SynchronizedTree tree, Void none) {
        due(6, tree, "synchronized", false);
        return super.visitSynchronized(tree, none);
    }

    @Override
    public Void visitAssert(AssertTree tree, Void none) {
        due(6, tree, "assert", false);
        return super.visitAssert(tree, none);
    }
}
