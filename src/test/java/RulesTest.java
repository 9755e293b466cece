import com.sun.source.tree.BinaryTree;
import com.sun.source.tree.BlockTree;
import com.sun.source.tree.ClassTree;
import com.sun.source.tree.CompilationUnitTree;
import com.sun.source.tree.CompoundAssignmentTree;
import com.sun.source.tree.ConditionalExpressionTree;
import com.sun.source.tree.ForLoopTree;
import com.sun.source.tree.MethodInvocationTree;
import com.sun.source.tree.MethodTree;
import com.sun.source.tree.NewArrayTree;
import com.sun.source.tree.NewClassTree;
import com.sun.source.tree.Tree;
import com.sun.source.tree.TypeCastTree;
import com.sun.source.tree.VariableTree;
import com.sun.source.util.JavacTask;
import com.sun.source.util.TreePath;
import com.sun.source.util.TreePathScanner;
import com.sun.source.util.Trees;
import java.io.IOException;
import java.util.EnumSet;
import java.util.HashMap;
import java.util.HashSet;
import java.util.List;
import java.util.Map;
import java.util.Set;
import java.util.TreeSet;
import javax.lang.model.element.Element;
import javax.lang.model.element.ElementKind;
import javax.lang.model.element.ExecutableElement;
import javax.lang.model.element.Modifier;
import javax.lang.model.element.TypeElement;
import javax.lang.model.element.VariableElement;
import javax.lang.model.type.ArrayType;
import javax.lang.model.type.TypeKind;
import javax.lang.model.type.TypeMirror;
import javax.tools.JavaCompiler;
import javax.tools.StandardJavaFileManager;
import javax.tools.ToolProvider;

/** Rules of LANGUAGE.md that can be seen in the class's source, by the compiler's own tree of it. */
public final class RulesTest extends TreePathScanner<Void, Void> {
    private static final String SOURCE = "src/main/java/BlankPardons.java";
    private static final Check check = new Check();

    private static final Set<String> LIBRARY = Set.of("java.lang.Object.<init>", "java.lang.Math.max",
            "java.lang.Integer.bitCount", "java.lang.System.arraycopy");

    // None of these is in the class now; rule 6 and others allow some, behind tests of their own.
    private static final Set<Tree.Kind> BANNED = EnumSet.of(Tree.Kind.THROW, Tree.Kind.TRY, Tree.Kind.CATCH,
            Tree.Kind.SYNCHRONIZED, Tree.Kind.ASSERT, Tree.Kind.LAMBDA_EXPRESSION, Tree.Kind.MEMBER_REFERENCE,
            Tree.Kind.IMPORT, Tree.Kind.PACKAGE, Tree.Kind.ANNOTATION, Tree.Kind.WHILE_LOOP, Tree.Kind.DO_WHILE_LOOP,
            Tree.Kind.LABELED_STATEMENT, Tree.Kind.STRING_LITERAL, Tree.Kind.DOUBLE_LITERAL, Tree.Kind.FLOAT_LITERAL,
            Tree.Kind.INSTANCE_OF);

    private final Trees trees;
    private final CompilationUnitTree unit;
    private final Map<Element, Set<Element>> calls = new HashMap<>();
    private final Set<String> publicNames = new TreeSet<>();
    private final Set<String> otherNames = new TreeSet<>();
    private int classes;

    private RulesTest(Trees trees, CompilationUnitTree unit) {
        this.trees = trees;
        this.unit = unit;
    }

    public static void main(String[] args) throws IOException {
        JavaCompiler compiler = ToolProvider.getSystemJavaCompiler();
        try (StandardJavaFileManager files = compiler.getStandardFileManager(null, null, null)) {
            JavacTask task = (JavacTask) compiler.getTask(null, files, null, List.of("-proc:none"), null,
                files.getJavaFileObjects(SOURCE));
            CompilationUnitTree unit = task.parse().iterator().next();
            task.analyze();
            RulesTest rules = new RulesTest(Trees.instance(task), unit);
            rules.scan(unit, null);
            rules.afterAll();
        }
        check.finish();
    }

    private void afterAll() {
        check.holds("rule 1: one class at the top", unit.getTypeDecls().size() == 1);
        check.holds("rule 11: classes: " + classes, classes <= 12);
        Set<String> both = new TreeSet<>(otherNames);
        both.retainAll(publicNames);
        check.holds("rule 1: names of public methods that others bear: " + both, both.isEmpty());
        int deepest = 0;
        for (Element method : calls.keySet()) {
            deepest = Math.max(deepest, depth(method, new HashSet<>()));
        }
        check.holds("rule 11: calls go " + deepest + " deep", deepest <= 8);
    }

    /** How many of the class's methods stand open at once, from this one on; the class has no recursion. */
    private int depth(Element method, Set<Element> open) {
        if (!open.add(method)) {
            check.holds("rule 8: no recursion, but " + method, false);
            return 0;
        }
        int below = 0;
        for (Element next : calls.getOrDefault(method, Set.of())) {
            below = Math.max(below, depth(next, open));
        }
        open.remove(method);
        return below + 1;
    }

    private long line(Tree tree) {
        return unit.getLineMap().getLineNumber(trees.getSourcePositions().getStartPosition(unit, tree));
    }

    private long lines(Tree tree) {
        long end = trees.getSourcePositions().getEndPosition(unit, tree);
        return unit.getLineMap().getLineNumber(end) - line(tree) + 1;
    }

    private String at(Tree tree) {
        return " (line " + line(tree) + ")";
    }

    @Override
    public Void scan(Tree tree, Void none) {
        if (tree != null) {
            check.holds("no " + tree.getKind() + at(tree), !BANNED.contains(tree.getKind()));
        }
        return super.scan(tree, none);
    }

    @Override
    public Void visitClass(ClassTree tree, Void none) {
        classes++;
        Set<Modifier> marks = tree.getModifiers().getFlags();
        boolean nested = getCurrentPath().getParentPath().getLeaf() instanceof ClassTree;
        boolean top = getCurrentPath().getParentPath().getLeaf() == unit;
        check.holds("rule 2: no local or anonymous class" + at(tree), nested || top);
        check.holds("rule 2: static" + at(tree), top || marks.contains(Modifier.STATIC));
        check.holds("rule 1: not open" + at(tree),
            top || !marks.contains(Modifier.PUBLIC) && !marks.contains(Modifier.PROTECTED));
        int fields = 0;
        for (Tree member : tree.getMembers()) {
            if (member instanceof VariableTree field && !field.getModifiers().getFlags().contains(Modifier.STATIC)) {
                fields++;
            }
            check.holds("rule 5: no initialiser block" + at(member), !(member instanceof BlockTree));
        }
        check.holds("rule 11: " + fields + " fields" + at(tree), fields <= 20);
        return super.visitClass(tree, none);
    }

    @Override
    public Void visitMethod(MethodTree tree, Void none) {
        check.holds("rule 11: parameters" + at(tree), tree.getParameters().size() <= 7);
        check.holds("rule 11: " + lines(tree) + " lines" + at(tree), lines(tree) <= 60);
        Element method = trees.getElement(getCurrentPath());
        String name = method.getSimpleName().toString();
        if (!name.equals("<init>")) {
            (method.getModifiers().contains(Modifier.PUBLIC) ? publicNames : otherNames).add(name);
        }
        check.holds("rule 6: no " + name + at(tree), !Set.of("equals", "hashCode", "toString").contains(name));
        return super.visitMethod(tree, none);
    }

    @Override
    public Void visitVariable(VariableTree tree, Void none) {
        Element variable = trees.getElement(getCurrentPath());
        check.holds("rule 3: type " + variable.asType() + at(tree), isKnown(variable.asType()));
        if (variable.getKind() == ElementKind.FIELD && variable.getModifiers().contains(Modifier.STATIC)) {
            check.holds("rule 5: final" + at(tree), variable.getModifiers().contains(Modifier.FINAL));
            check.holds("rule 5: a constant" + at(tree),
                ((VariableElement) variable).getConstantValue() != null);
        }
        return super.visitVariable(tree, none);
    }

    private static boolean isKnown(TypeMirror type) {
        if (type.getKind() == TypeKind.ARRAY) {
            TypeMirror inner = ((ArrayType) type).getComponentType();
            return inner.getKind() == TypeKind.ARRAY
                ? isNumber(((ArrayType) inner).getComponentType()) : isKnown(inner);
        }
        return isNumber(type) || type.getKind() == TypeKind.BOOLEAN || type.toString().startsWith("BlankPardons.");
    }

    private static boolean isNumber(TypeMirror type) {
        return type.getKind() == TypeKind.INT || type.getKind() == TypeKind.LONG;
    }

    @Override
    public Void visitForLoop(ForLoopTree tree, Void none) {
        String condition = String.valueOf(tree.getCondition());
        // A counter that is told ahead, stands first in the condition against a bound, and goes up by one.
        check.holds("rule 9: for's counter" + at(tree), tree.getInitializer().size() == 1 && tree.getUpdate().size() == 1);
        String update = tree.getUpdate().isEmpty() ? "" : tree.getUpdate().get(0).toString().replace(";", "");
        String counter = update.replace("++", "");
        check.holds("rule 9: goes up by one" + at(tree), update.equals(counter + "++"));
        check.holds("rule 9: against a bound" + at(tree),
            condition.startsWith(counter + " < ") || condition.startsWith(counter + " <= "));
        check.holds("rule 9: no other way on" + at(tree), !condition.contains("||"));
        String body = tree.getStatement().toString();
        check.holds("rule 9: the counter is left alone" + at(tree),
            !body.matches("(?s).*\\b" + counter + "\\s*([-+*/%&|^]?=[^=]|\\+\\+|--).*"));
        return super.visitForLoop(tree, none);
    }

    @Override
    public Void visitBinary(BinaryTree tree, Void none) {
        if (tree.getKind() == Tree.Kind.EQUAL_TO || tree.getKind() == Tree.Kind.NOT_EQUAL_TO) {
            check.holds("rule 6: numbers are compared" + at(tree),
                isPrimitive(tree.getLeftOperand()) && isPrimitive(tree.getRightOperand()));
        }
        if (tree.getKind() == Tree.Kind.DIVIDE || tree.getKind() == Tree.Kind.REMAINDER) {
            check.holds("rule 7: the divisor is looked at" + at(tree), isLookedAt(tree.getRightOperand()));
        }
        return super.visitBinary(tree, none);
    }

    @Override
    public Void visitCompoundAssignment(CompoundAssignmentTree tree, Void none) {
        check.holds("rule 7: no division in an assignment" + at(tree),
            tree.getKind() != Tree.Kind.DIVIDE_ASSIGNMENT && tree.getKind() != Tree.Kind.REMAINDER_ASSIGNMENT);
        return super.visitCompoundAssignment(tree, none);
    }

    private boolean isPrimitive(Tree tree) {
        return trees.getTypeMirror(new TreePath(getCurrentPath(), tree)).getKind().isPrimitive();
    }

    /** Whether a condition that the path stands behind says that it is not 0. */
    private boolean isLookedAt(Tree divisor) {
        boolean seen = false;
        for (TreePath path = getCurrentPath(); path != null; path = path.getParentPath()) {
            Tree condition = path.getLeaf() instanceof ForLoopTree loop ? loop.getCondition()
                : path.getLeaf() instanceof ConditionalExpressionTree choice ? choice.getCondition() : null;
            seen |= String.valueOf(condition).matches("(.* && |\\(?)" + divisor + " (!= 0|> [01])\\)?");
        }
        return seen;
    }

    @Override
    public Void visitTypeCast(TypeCastTree tree, Void none) {
        TypeMirror type = trees.getTypeMirror(new TreePath(getCurrentPath(), tree.getType()));
        check.holds("rule 6: casts among numbers alone" + at(tree), type.getKind().isPrimitive());
        return super.visitTypeCast(tree, none);
    }

    @Override
    public Void visitMethodInvocation(MethodInvocationTree tree, Void none) {
        ExecutableElement method = (ExecutableElement) trees.getElement(getCurrentPath());
        String owner = ((TypeElement) method.getEnclosingElement()).getQualifiedName().toString();
        if (owner.equals("BlankPardons") || owner.startsWith("BlankPardons.")) {
            noteCall(method);
        } else {
            String full = owner + "." + method.getSimpleName();
            check.holds("rule 4: " + full + at(tree), LIBRARY.contains(full));
        }
        return super.visitMethodInvocation(tree, none);
    }

    private void noteCall(Element called) {
        calls.computeIfAbsent(caller(), one -> new HashSet<>()).add(called);
    }

    /** The method, constructor or (of a field's initialiser) class that the path stands in. */
    private Element caller() {
        for (TreePath path = getCurrentPath(); path != null; path = path.getParentPath()) {
            if (path.getLeaf() instanceof MethodTree || path.getLeaf() instanceof ClassTree) {
                return trees.getElement(path);
            }
        }
        throw new IllegalStateException("outside of any class");
    }

    @Override
    public Void visitNewClass(NewClassTree tree, Void none) {
        Element made = trees.getElement(getCurrentPath());
        noteCall(made);
        check.holds("rule 12: " + tree + at(tree), isMadeWithObject() || isTextOfKingdom(made));
        return super.visitNewClass(tree, none);
    }

    @Override
    public Void visitNewArray(NewArrayTree tree, Void none) {
        check.holds("rule 12: " + tree + at(tree), isMadeWithObject());
        for (Tree length : tree.getDimensions()) {
            check.holds("rule 7: a length that is known" + at(tree), length.toString().matches("[A-Z_]+( \\+ 1)?|\\d+"));
        }
        return super.visitNewArray(tree, none);
    }

    /** In a constructor or in a field's initialiser: so once for each object. */
    private boolean isMadeWithObject() {
        return caller().getKind() != ElementKind.METHOD;
    }

    private boolean isTextOfKingdom(Element made) {
        boolean inLoop = false;
        for (TreePath path = getCurrentPath(); path != null; path = path.getParentPath()) {
            inLoop |= path.getLeaf() instanceof ForLoopTree;
        }
        return !inLoop && made.getEnclosingElement().getSimpleName().contentEquals("Text")
            && caller().getSimpleName().contentEquals("kingdom");
    }
}
