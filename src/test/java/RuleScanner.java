import com.sun.source.tree.ArrayAccessTree;
import com.sun.source.tree.AssertTree;
import com.sun.source.tree.AssignmentTree;
import com.sun.source.tree.BinaryTree;
import com.sun.source.tree.BlockTree;
import com.sun.source.tree.ClassTree;
import com.sun.source.tree.CompilationUnitTree;
import com.sun.source.tree.CompoundAssignmentTree;
import com.sun.source.tree.DoWhileLoopTree;
import com.sun.source.tree.ExpressionTree;
import com.sun.source.tree.ForLoopTree;
import com.sun.source.tree.IdentifierTree;
import com.sun.source.tree.ImportTree;
import com.sun.source.tree.LambdaExpressionTree;
import com.sun.source.tree.LiteralTree;
import com.sun.source.tree.MemberReferenceTree;
import com.sun.source.tree.MemberSelectTree;
import com.sun.source.tree.MethodInvocationTree;
import com.sun.source.tree.MethodTree;
import com.sun.source.tree.NewClassTree;
import com.sun.source.tree.ParenthesizedTree;
import com.sun.source.tree.SwitchExpressionTree;
import com.sun.source.tree.SwitchTree;
import com.sun.source.tree.SynchronizedTree;
import com.sun.source.tree.ThrowTree;
import com.sun.source.tree.Tree;
import com.sun.source.tree.TryTree;
import com.sun.source.tree.TypeCastTree;
import com.sun.source.tree.UnaryTree;
import com.sun.source.tree.VariableTree;
import com.sun.source.tree.WhileLoopTree;
import com.sun.source.util.TreePath;
import com.sun.source.util.TreePathScanner;
import com.sun.source.util.Trees;
import java.util.EnumSet;
import java.util.List;
import java.util.Set;
import javax.lang.model.element.Element;
import javax.lang.model.element.ElementKind;
import javax.lang.model.element.ExecutableElement;
import javax.lang.model.element.Modifier;
import javax.lang.model.type.TypeMirror;

/** Goes through a source as javac reads it, and tells what LANGUAGE.md rules out, by the number of its rule. */
final class RuleScanner extends TreePathScanner<Void, Void> {
    private static final Set<String> IMPORTS = Set.of("java.util.ArrayList", "java.util.Arrays", "java.util.Iterator", "java.util.List");
    // rule 4, as far as calls go; equals of two Strings alone, of own objects none
    private static final Set<String> LIBRARY = Set.of(
        "String.length", "String.charAt", "String.isEmpty", "String.equals", "String.indexOf", "String.substring", "String.toCharArray",
        "StringBuilder.append", "StringBuilder.charAt", "StringBuilder.setCharAt", "StringBuilder.setLength", "StringBuilder.deleteCharAt",
        "StringBuilder.reverse", "StringBuilder.length", "StringBuilder.toString",
        "ArrayList.add", "ArrayList.get", "ArrayList.set", "ArrayList.remove", "ArrayList.size", "ArrayList.isEmpty", "ArrayList.clear",
        "List.add", "List.get", "List.set", "List.remove", "List.size", "List.isEmpty", "List.clear", "List.of",
        "System.arraycopy", "Arrays.copyOf", "Arrays.copyOfRange", "Arrays.fill", "Object.clone",
        "Math.max", "Math.min", "Math.abs", "Math.floorDiv", "Math.floorMod", "Integer.compare", "Integer.bitCount", "Integer.max",
        "Integer.min", "Long.compare", "Long.bitCount", "Long.max", "Long.min");
    private static final Set<String> MADE = Set.of("StringBuilder", "ArrayList", "String");
    private static final String NUMBER = "(int|long|short|byte|char|double|float)";

    private final Due due;
    private final Trees trees;
    private final CompilationUnitTree unit;
    private final List<String> own;
    private int methods = 0;
    private int loops = 0;

    RuleScanner(Due due, Trees trees, CompilationUnitTree unit, List<String> own) {
        this.due = due;
        this.trees = trees;
        this.unit = unit;
        this.own = own;
    }

    int methods() {
        return methods;
    }

    int loops() {
        return loops;
    }

    private void rule(String what, Tree at, boolean kept) {
        long line = unit.getLineMap().getLineNumber(trees.getSourcePositions().getStartPosition(unit, at));
        due.is(what + ", line " + line, kept ? 1 : 0, 1);
    }

    private Element elementOf(Tree tree) {
        return trees.getElement(new TreePath(getCurrentPath(), tree));
    }

    private String typeOf(Tree tree) {
        TypeMirror type = trees.getTypeMirror(new TreePath(getCurrentPath(), tree));
        return type == null ? "" : type.toString();
    }

    private static String simple(String name) {
        return name.substring(name.lastIndexOf('.') + 1);
    }

    private boolean mayBe(String type) {
        if (type.matches(NUMBER + "(\\[\\]){0,2}|boolean(\\[\\])?|void|java.lang.(String|StringBuilder|Integer)")) return true;
        String one = type.endsWith("[]") ? type.substring(0, type.length() - 2) : type;
        return own.contains(simple(one)) || type.matches("java.util.(List|ArrayList)<.*>");
    }

    @Override
    public Void visitImport(ImportTree node, Void none) {
        rule("4 " + node.getQualifiedIdentifier(), node, !node.isStatic() && IMPORTS.contains(node.getQualifiedIdentifier().toString()));
        return super.visitImport(node, none);
    }

    @Override
    public Void visitClass(ClassTree node, Void none) {
        Set<Modifier> flags = node.getModifiers().getFlags();
        Tree around = getCurrentPath().getParentPath().getLeaf();
        boolean outer = around instanceof CompilationUnitTree;
        if (outer) rule("1 public and final", node, flags.equals(EnumSet.of(Modifier.PUBLIC, Modifier.FINAL)));
        else rule("2 static, within a class", node, around instanceof ClassTree
            && (flags.contains(Modifier.STATIC) || node.getKind() != Tree.Kind.CLASS) && !flags.contains(Modifier.PUBLIC)
            && !flags.contains(Modifier.PROTECTED));
        rule("2 extends nothing of the library", node, node.getExtendsClause() == null || own.contains(node.getExtendsClause().toString()));
        int fields = 0;
        for (Tree member : node.getMembers()) {
            boolean field = member instanceof VariableTree one && !one.getModifiers().getFlags().contains(Modifier.STATIC);
            if (field) fields++;
            rule("5 no block of its own", member, !(member instanceof BlockTree));
        }
        rule("11 " + fields + " fields", node, fields <= 20);
        return super.visitClass(node, none);
    }

    @Override
    public Void visitMethod(MethodTree node, Void none) {
        methods++;
        rule("11 parameters", node, node.getParameters().size() <= 7);
        rule("6 throws", node, node.getThrows().isEmpty());
        rule("6 " + node.getName(), node, !Set.of("equals", "hashCode", "toString").contains(node.getName().toString()));
        Set<Modifier> flags = node.getModifiers().getFlags();
        rule("6 synchronized, native", node, !flags.contains(Modifier.SYNCHRONIZED) && !flags.contains(Modifier.NATIVE));
        if (node.getReturnType() != null) rule("3 answers", node, mayBe(typeOf(node.getReturnType())));
        long first = unit.getLineMap().getLineNumber(trees.getSourcePositions().getStartPosition(unit, node));
        long last = unit.getLineMap().getLineNumber(trees.getSourcePositions().getEndPosition(unit, node));
        rule("11 lines of " + node.getName(), node, last - first < 60);
        return super.visitMethod(node, none);
    }

    @Override
    public Void visitVariable(VariableTree node, Void none) {
        Element element = trees.getElement(getCurrentPath());
        rule("3 " + element.asType(), node, mayBe(element.asType().toString()));
        Set<Modifier> flags = element.getModifiers();
        rule("6 volatile, transient", node, !flags.contains(Modifier.VOLATILE) && !flags.contains(Modifier.TRANSIENT));
        if (flags.contains(Modifier.STATIC)) {
            rule("5 final and written out", node, flags.contains(Modifier.FINAL) && node.getInitializer() != null
                && element.asType().toString().matches("(int|long|char|byte)(\\[\\])?|boolean|java.lang.String"));
        }
        return super.visitVariable(node, none);
    }

    /** What is written to is no element of an array that is static. */
    private void written(ExpressionTree to) {
        Tree base = to;
        while (base instanceof ArrayAccessTree || base instanceof ParenthesizedTree) {
            base = base instanceof ArrayAccessTree one ? one.getExpression() : ((ParenthesizedTree) base).getExpression();
        }
        Element element = elementOf(base);
        rule("5 changed: " + to, to, element == null || !element.getModifiers().contains(Modifier.STATIC));
    }

    @Override
    public Void visitAssignment(AssignmentTree node, Void none) {
        written(node.getVariable());
        return super.visitAssignment(node, none);
    }

    @Override
    public Void visitCompoundAssignment(CompoundAssignmentTree node, Void none) {
        written(node.getVariable());
        rule("10 texts joined", node, !typeOf(node.getVariable()).equals("java.lang.String"));
        return super.visitCompoundAssignment(node, none);
    }

    @Override
    public Void visitUnary(UnaryTree node, Void none) {
        if (Set.of(Tree.Kind.PREFIX_INCREMENT, Tree.Kind.PREFIX_DECREMENT, Tree.Kind.POSTFIX_INCREMENT, Tree.Kind.POSTFIX_DECREMENT)
                .contains(node.getKind())) written(node.getExpression());
        return super.visitUnary(node, none);
    }

    @Override
    public Void visitBinary(BinaryTree node, Void none) {
        String left = typeOf(node.getLeftOperand());
        String right = typeOf(node.getRightOperand());
        if (node.getKind() == Tree.Kind.PLUS) rule("10 texts joined", node, !left.equals("java.lang.String") && !right.equals("java.lang.String"));
        boolean compared = node.getKind() == Tree.Kind.EQUAL_TO || node.getKind() == Tree.Kind.NOT_EQUAL_TO;
        if (compared) rule("6 " + left + " == " + right, node, !left.equals(right) || !left.matches("java.lang.(String|Integer)"));
        return super.visitBinary(node, none);
    }

    @Override
    public Void visitMethodInvocation(MethodInvocationTree node, Void none) {
        ExecutableElement called = (ExecutableElement) elementOf(node.getMethodSelect());
        String owner = called.getEnclosingElement().getSimpleName().toString();
        boolean isSuper = called.getKind() == ElementKind.CONSTRUCTOR;
        rule("4 " + owner + "." + called.getSimpleName(), node, isSuper || own.contains(owner) || LIBRARY.contains(owner + "." + called.getSimpleName()));
        return super.visitMethodInvocation(node, none);
    }

    @Override
    public Void visitNewClass(NewClassTree node, Void none) {
        rule("2 without a name", node, node.getClassBody() == null);
        String made = simple(typeOf(node.getIdentifier()).replaceAll("<.*", ""));
        rule("4 new " + made, node, own.contains(made) || MADE.contains(made));
        return super.visitNewClass(node, none);
    }

    @Override
    public Void visitIdentifier(IdentifierTree node, Void none) {
        boolean handed = node.getName().contentEquals("this") && !(getCurrentPath().getParentPath().getLeaf() instanceof MemberSelectTree);
        rule("12 hands out itself", node, !handed);
        return super.visitIdentifier(node, none);
    }

    @Override
    public Void visitMemberSelect(MemberSelectTree node, Void none) {
        Element element = trees.getElement(getCurrentPath());
        boolean field = element != null && element.getKind() == ElementKind.FIELD;
        String owner = field && element.getEnclosingElement() != null ? element.getEnclosingElement().getSimpleName().toString() : "";
        boolean library = field && !own.contains(owner) && !node.getIdentifier().contentEquals("length");
        // that constant is the document's own word
        rule("4 " + node, node, !library || node.toString().equals("Long.MIN_VALUE"));
        return super.visitMemberSelect(node, none);
    }

    @Override
    public Void visitTypeCast(TypeCastTree node, Void none) {
        // one among own classes would be fine, but only behind a test that is not seen from here
        rule("6 a cast of numbers alone: " + node, node, typeOf(node.getType()).matches(NUMBER));
        return super.visitTypeCast(node, none);
    }

    @Override
    public Void visitLiteral(LiteralTree node, Void none) {
        String text = String.valueOf(node.getValue());
        boolean isText = node.getKind() == Tree.Kind.STRING_LITERAL || node.getKind() == Tree.Kind.CHAR_LITERAL;
        for (int i = 0; isText && i < text.length(); i++) rule("4 a sign", node, text.charAt(i) >= 1 && text.charAt(i) <= 127);
        return super.visitLiteral(node, none);
    }

    /** A condition that holds a count against a bound, alone or with others behind &&. */
    private static boolean counts(ExpressionTree condition) {
        if (condition instanceof ParenthesizedTree one) return counts(one.getExpression());
        if (!(condition instanceof BinaryTree both)) return false;
        if (both.getKind() == Tree.Kind.CONDITIONAL_AND) return counts(both.getLeftOperand()) || counts(both.getRightOperand());
        return Set.of(Tree.Kind.LESS_THAN, Tree.Kind.LESS_THAN_EQUAL, Tree.Kind.GREATER_THAN, Tree.Kind.GREATER_THAN_EQUAL).contains(both.getKind());
    }

    private void loop(Tree node, ExpressionTree condition) {
        loops++;
        rule("9 a loop without a bound", node, counts(condition));
    }

    @Override
    public Void visitForLoop(ForLoopTree node, Void none) {
        loop(node, node.getCondition());
        return super.visitForLoop(node, none);
    }

    @Override
    public Void visitWhileLoop(WhileLoopTree node, Void none) {
        loop(node, node.getCondition());
        return super.visitWhileLoop(node, none);
    }

    @Override
    public Void visitDoWhileLoop(DoWhileLoopTree node, Void none) {
        loop(node, node.getCondition());
        return super.visitDoWhileLoop(node, none);
    }

    private void chosen(Tree node, ExpressionTree by) {
        String type = typeOf(((ParenthesizedTree) by).getExpression());
        rule("10 a switch on " + type, node, type.matches("int|char|short|byte") || own.contains(simple(type)));
    }

    @Override
    public Void visitSwitch(SwitchTree node, Void none) {
        chosen(node, node.getExpression());
        return super.visitSwitch(node, none);
    }

    @Override
    public Void visitSwitchExpression(SwitchExpressionTree node, Void none) {
        chosen(node, node.getExpression());
        return super.visitSwitchExpression(node, none);
    }

    @Override
    public Void visitLambdaExpression(LambdaExpressionTree node, Void none) {
        rule("2 a lambda", node, false);
        return null;
    }

    @Override
    public Void visitMemberReference(MemberReferenceTree node, Void none) {
        rule("2 a method reference", node, false);
        return null;
    }

    @Override
    public Void visitThrow(ThrowTree node, Void none) {
        rule("6 throw", node, false);
        return null;
    }

    @Override
    public Void visitTry(TryTree node, Void none) {
        rule("6 try", node, false);
        return null;
    }

    @Override
    public Void visitSynchronized(SynchronizedTree node, Void none) {
        rule("6 synchronized", node, false);
        return null;
    }

    @Override
    public Void visitAssert(AssertTree node, Void none) {
        rule("6 assert", node, false);
        return null;
    }
}
