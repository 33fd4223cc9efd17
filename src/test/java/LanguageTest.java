import com.sun.source.tree.ArrayAccessTree;
import com.sun.source.tree.AssignmentTree;
import com.sun.source.tree.BinaryTree;
import com.sun.source.tree.ClassTree;
import com.sun.source.tree.CompilationUnitTree;
import com.sun.source.tree.CompoundAssignmentTree;
import com.sun.source.tree.ExpressionTree;
import com.sun.source.tree.IdentifierTree;
import com.sun.source.tree.ImportTree;
import com.sun.source.tree.LiteralTree;
import com.sun.source.tree.MemberSelectTree;
import com.sun.source.tree.MethodInvocationTree;
import com.sun.source.tree.MethodTree;
import com.sun.source.tree.NewArrayTree;
import com.sun.source.tree.NewClassTree;
import com.sun.source.tree.ThrowTree;
import com.sun.source.tree.Tree;
import com.sun.source.tree.TypeCastTree;
import com.sun.source.tree.VariableTree;
import com.sun.source.util.JavacTask;
import com.sun.source.util.TreePath;
import com.sun.source.util.TreePathScanner;
import com.sun.source.util.Trees;
import java.io.File;
import java.util.ArrayDeque;
import java.util.ArrayList;
import java.util.Deque;
import java.util.EnumSet;
import java.util.HashMap;
import java.util.LinkedHashSet;
import java.util.List;
import java.util.Map;
import java.util.Set;
import javax.lang.model.element.Element;
import javax.lang.model.element.ElementKind;
import javax.lang.model.element.Modifier;
import javax.lang.model.element.VariableElement;
import javax.tools.JavaCompiler;
import javax.tools.StandardJavaFileManager;
import javax.tools.ToolProvider;

/** The rules of LANGUAGE.md that can be seen from the class's text, read as the compiler reads it. */
public final class LanguageTest {
    private static final String SOURCE = "src/main/java/WorthLadder.java";
    private static final int DEEPEST = 8;
    private static final int LONGEST = 60;

    // Rule 4, as far as the class uses it; a new one goes in only if the rule names it.
    private static final Set<String> LIBRARY = Set.of("Math.abs", "Math.min", "Math.max", "Arrays.fill", "System.arraycopy",
        "String.length", "String.charAt");
    private static final Set<String> IMPORTS = Set.of("java.util.Arrays", "java.util.NoSuchElementException");
    private static final Set<String> PLAIN_TYPES = Set.of("int", "long", "short", "byte", "char", "boolean", "java.lang.String");
    private static final Set<String> CONSTANT_TYPES = Set.of("int", "long", "boolean", "char", "java.lang.String", "int[]", "long[]", "char[]", "byte[]");
    // Divisors that are no constants: cut() tests the first, the head of its loop the second.
    private static final Set<String> TESTED_DIVISORS = Set.of("divisor", "unit");
    private static final Set<Tree.Kind> BANNED = EnumSet.of(Tree.Kind.LAMBDA_EXPRESSION, Tree.Kind.MEMBER_REFERENCE, Tree.Kind.TRY,
        Tree.Kind.SYNCHRONIZED, Tree.Kind.ASSERT, Tree.Kind.FLOAT_LITERAL, Tree.Kind.DOUBLE_LITERAL, Tree.Kind.SWITCH_EXPRESSION);

    private static int looked = 0;
    private static int wrong = 0;

    public static void main(String[] args) throws Exception {
        JavaCompiler compiler = ToolProvider.getSystemJavaCompiler();
        try (StandardJavaFileManager files = compiler.getStandardFileManager(null, null, null)) {
            JavacTask task = (JavacTask) compiler.getTask(null, files, null, null, null, files.getJavaFileObjects(new File(SOURCE)));
            CompilationUnitTree unit = task.parse().iterator().next();
            task.analyze();
            Look look = new Look(unit, Trees.instance(task));
            look.scan(unit, null);
            look.depths();
        }
        due(looked > 1000, "the class has been looked at");
        System.out.println(wrong == 0 ? looked + " places keep to the language" : wrong + " places do not keep to the language");
        if (wrong != 0) System.exit(1);
    }

    private static void due(boolean is, String what) {
        looked++;
        if (is) return;
        wrong++;
        System.out.println("not so: " + what);
    }

    private static final class Look extends TreePathScanner<Void, Void> {
        private final CompilationUnitTree unit;
        private final Trees trees;
        private final Map<Element, Set<Element>> calls = new HashMap<>();
        private final Deque<Element> methods = new ArrayDeque<>();

        Look(CompilationUnitTree unit, Trees trees) {
            this.unit = unit;
            this.trees = trees;
        }

        private long line(Tree t) { return unit.getLineMap().getLineNumber(trees.getSourcePositions().getStartPosition(unit, t)); }

        private long lastLine(Tree t) { return unit.getLineMap().getLineNumber(trees.getSourcePositions().getEndPosition(unit, t)); }

        private void rule(int number, boolean is, Tree t, String what) { due(is, "rule " + number + ", line " + line(t) + ": " + what); }

        private Element element(Tree t) { return trees.getElement(new TreePath(getCurrentPath(), t)); }

        private boolean isOwn(Element e) {
            for (Element at = e; at != null; at = at.getEnclosingElement()) if (at.toString().equals("WorthLadder")) return true;
            return false;
        }

        /** Whether it runs but once an object: in a constructor, or where a field gets its first value. */
        private boolean isMaking() { return methods.isEmpty() || methods.peek().getKind() == ElementKind.CONSTRUCTOR; }

        @Override public Void scan(Tree t, Void v) {
            if (t != null) rule(6, !BANNED.contains(t.getKind()), t, "a " + t.getKind());
            return super.scan(t, v);
        }

        @Override public Void visitImport(ImportTree t, Void v) {
            rule(4, IMPORTS.contains(t.getQualifiedIdentifier().toString()), t, "imports " + t.getQualifiedIdentifier());
            return null;
        }

        @Override public Void visitClass(ClassTree t, Void v) {
            Element e = trees.getElement(getCurrentPath());
            boolean isFace = e.toString().equals("WorthLadder");
            rule(2, isFace || e.getModifiers().contains(Modifier.STATIC), t, "a class that is not static");
            rule(12, e.getModifiers().contains(Modifier.FINAL), t, "a class that another could extend");
            return super.visitClass(t, v);
        }

        @Override public Void visitMethod(MethodTree t, Void v) {
            Element e = trees.getElement(getCurrentPath());
            calls.putIfAbsent(e, new LinkedHashSet<>());
            rule(11, lastLine(t) - line(t) < LONGEST, t, t.getName() + " is long");
            rule(11, t.getParameters().size() <= 7, t, t.getName() + " takes too much");
            methods.push(e);
            super.visitMethod(t, v);
            methods.pop();
            return null;
        }

        @Override public Void visitVariable(VariableTree t, Void v) {
            VariableElement e = (VariableElement) trees.getElement(getCurrentPath());
            String type = e.asType().toString();
            String inner = type.replace("[]", "");
            int dimensions = (type.length() - inner.length()) / 2;
            boolean isPlain = PLAIN_TYPES.contains(inner);
            rule(3, isPlain || inner.startsWith("WorthLadder"), t, "a " + type);
            rule(3, dimensions < 2 || dimensions == 2 && isPlain && !inner.endsWith("String"), t, "a " + type);
            if (e.getModifiers().contains(Modifier.STATIC)) {
                rule(5, e.getModifiers().contains(Modifier.FINAL) && CONSTANT_TYPES.contains(type), t, "static " + type + " " + t.getName());
                boolean isWrittenOut = dimensions == 0 ? e.getConstantValue() != null : t.getInitializer() instanceof NewArrayTree;
                rule(5, isWrittenOut, t, t.getName() + " is not written out");
            }
            return super.visitVariable(t, v);
        }

        @Override public Void visitIdentifier(IdentifierTree t, Void v) {
            Element e = trees.getElement(getCurrentPath());
            boolean isTable = e instanceof VariableElement && e.getModifiers().contains(Modifier.STATIC) && e.asType().toString().endsWith("[]");
            if (isTable) rule(5, isRead(getCurrentPath()), t, t.getName() + " is used for more than reading");
            return super.visitIdentifier(t, v);
        }

        /** A written-out array may only be asked for its length and for one of its numbers. */
        private boolean isRead(TreePath path) {
            Tree user = path.getParentPath().getLeaf();
            if (user instanceof MemberSelectTree) return ((MemberSelectTree) user).getIdentifier().contentEquals("length");
            if (!(user instanceof ArrayAccessTree)) return false;
            Tree taker = path.getParentPath().getParentPath().getLeaf();
            if (taker instanceof AssignmentTree) return ((AssignmentTree) taker).getVariable() != user;
            String kind = taker.getKind().name();
            return !kind.endsWith("CREMENT") && !(taker instanceof CompoundAssignmentTree && ((CompoundAssignmentTree) taker).getVariable() == user);
        }

        @Override public Void visitMethodInvocation(MethodInvocationTree t, Void v) {
            Element called = element(t.getMethodSelect());
            if (isOwn(called)) {
                if (!methods.isEmpty()) calls.get(methods.peek()).add(called);
            } else if (called.getKind() == ElementKind.METHOD) {
                String name = called.getEnclosingElement().getSimpleName() + "." + called.getSimpleName();
                rule(4, LIBRARY.contains(name), t, "calls " + name);
            }
            return super.visitMethodInvocation(t, v);
        }

        @Override public Void visitNewClass(NewClassTree t, Void v) {
            boolean isThrown = getCurrentPath().getParentPath().getLeaf() instanceof ThrowTree;
            rule(12, isMaking() || isThrown, t, "makes an object behind the constructor");
            rule(2, t.getClassBody() == null, t, "a class without a name");
            Element made = trees.getElement(getCurrentPath());
            if (isOwn(made) && !methods.isEmpty()) calls.get(methods.peek()).add(made);
            return super.visitNewClass(t, v);
        }

        @Override public Void visitNewArray(NewArrayTree t, Void v) {
            rule(12, isMaking(), t, "makes an array behind the constructor");
            for (ExpressionTree size : t.getDimensions()) rule(7, isAboveZero(size), t, "a length that may be below 0: " + size);
            return super.visitNewArray(t, v);
        }

        @Override public Void visitThrow(ThrowTree t, Void v) {
            boolean isSale = !methods.isEmpty() && methods.peek().toString().equals("sale(int,int)") && isFaceMethod(methods.peek());
            rule(6, isSale, t, "the document lets sale() alone throw");
            rule(6, t.getExpression().toString().equals("new NoSuchElementException()"), t, "throws " + t.getExpression());
            return super.visitThrow(t, v);
        }

        @Override public Void visitTypeCast(TypeCastTree t, Void v) {
            rule(7, PLAIN_TYPES.contains(t.getType().toString()), t, "casts to " + t.getType());
            return super.visitTypeCast(t, v);
        }

        @Override public Void visitBinary(BinaryTree t, Void v) {
            boolean divides = t.getKind() == Tree.Kind.DIVIDE || t.getKind() == Tree.Kind.REMAINDER;
            if (divides) rule(7, isSafeDivisor(t.getRightOperand()), t, "divides by " + t.getRightOperand());
            if (t.getKind() == Tree.Kind.PLUS) rule(10, !(t.getLeftOperand().getKind() == Tree.Kind.STRING_LITERAL), t, "joins texts");
            return super.visitBinary(t, v);
        }

        @Override public Void visitCompoundAssignment(CompoundAssignmentTree t, Void v) {
            boolean divides = t.getKind() == Tree.Kind.DIVIDE_ASSIGNMENT || t.getKind() == Tree.Kind.REMAINDER_ASSIGNMENT;
            if (divides) rule(7, isSafeDivisor(t.getExpression()), t, "divides by " + t.getExpression());
            return super.visitCompoundAssignment(t, v);
        }

        private boolean isSafeDivisor(ExpressionTree t) { return TESTED_DIVISORS.contains(t.toString()) || isAboveZero(t); }

        /** A number that is written or a constant; of a sum or a product, both. */
        private boolean isAboveZero(ExpressionTree t) {
            if (t instanceof BinaryTree) {
                BinaryTree b = (BinaryTree) t;
                boolean grows = b.getKind() == Tree.Kind.PLUS || b.getKind() == Tree.Kind.MULTIPLY;
                return grows && isAboveZero(b.getLeftOperand()) && isAboveZero(b.getRightOperand());
            }
            Object value = t instanceof LiteralTree ? ((LiteralTree) t).getValue() : constantOf(t);
            return value instanceof Number && ((Number) value).longValue() > 0;
        }

        private Object constantOf(ExpressionTree t) {
            Element e = element(t);
            return e instanceof VariableElement ? ((VariableElement) e).getConstantValue() : null;
        }

        private boolean isFaceMethod(Element e) { return e.getEnclosingElement().toString().equals("WorthLadder"); }

        /** Rules 8, 11: no method comes back to itself, and none stands more than eight deep. */
        void depths() {
            for (Element e : calls.keySet()) {
                if (isFaceMethod(e)) deepest(e, new ArrayList<>());
            }
        }

        private void deepest(Element e, List<Element> open) {
            boolean isAgain = open.contains(e);
            open.add(e);
            due(!isAgain && open.size() <= DEEPEST, "rules 8, 11: " + open);
            if (!isAgain && open.size() <= DEEPEST) {
                for (Element next : calls.getOrDefault(e, Set.of())) deepest(next, open);
            }
            open.remove(open.size() - 1);
        }
    }
}
