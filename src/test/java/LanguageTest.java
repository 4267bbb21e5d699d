import com.sun.source.tree.ArrayAccessTree;
import com.sun.source.tree.AssignmentTree;
import com.sun.source.tree.BinaryTree;
import com.sun.source.tree.BlockTree;
import com.sun.source.tree.ClassTree;
import com.sun.source.tree.CompilationUnitTree;
import com.sun.source.tree.CompoundAssignmentTree;
import com.sun.source.tree.ExpressionTree;
import com.sun.source.tree.ForLoopTree;
import com.sun.source.tree.IdentifierTree;
import com.sun.source.tree.MemberSelectTree;
import com.sun.source.tree.MethodInvocationTree;
import com.sun.source.tree.MethodTree;
import com.sun.source.tree.NewArrayTree;
import com.sun.source.tree.NewClassTree;
import com.sun.source.tree.Tree;
import com.sun.source.tree.TypeCastTree;
import com.sun.source.tree.UnaryTree;
import com.sun.source.tree.VariableTree;
import com.sun.source.tree.WhileLoopTree;
import com.sun.source.util.JavacTask;
import com.sun.source.util.TreePath;
import com.sun.source.util.TreePathScanner;
import com.sun.source.util.Trees;
import java.io.IOException;
import java.nio.file.Path;
import java.util.ArrayList;
import java.util.EnumSet;
import java.util.HashMap;
import java.util.HashSet;
import java.util.List;
import java.util.Map;
import java.util.Set;
import java.util.regex.Pattern;
import javax.lang.model.element.Element;
import javax.lang.model.element.ElementKind;
import javax.lang.model.element.ExecutableElement;
import javax.lang.model.element.Modifier;
import javax.lang.model.element.VariableElement;
import javax.lang.model.type.ArrayType;
import javax.lang.model.type.TypeKind;
import javax.lang.model.type.TypeMirror;
import javax.tools.JavaCompiler;
import javax.tools.StandardJavaFileManager;
import javax.tools.ToolProvider;

/**
 * LANGUAGE.md's rules, on the tree that javac makes of AntBand.java. Where a rule leaves more than the class needs, the
 * narrower is asked for: it is simpler to see. Each row begins with its rule's number.
 */
public final class LanguageTest extends TreePathScanner<Void, Void> {
    private static final Path FILE = Path.of("src/main/java/AntBand.java");
    private static final Set<Tree.Kind> RULED_OUT = EnumSet.of(Tree.Kind.LAMBDA_EXPRESSION, Tree.Kind.MEMBER_REFERENCE,
            Tree.Kind.THROW, Tree.Kind.TRY, Tree.Kind.CATCH, Tree.Kind.SYNCHRONIZED, Tree.Kind.ASSERT, Tree.Kind.IMPORT,
            Tree.Kind.PACKAGE, Tree.Kind.ANNOTATION, Tree.Kind.BINDING_PATTERN, Tree.Kind.SWITCH_EXPRESSION,
            Tree.Kind.DO_WHILE_LOOP, Tree.Kind.LABELED_STATEMENT);
    private static final Pattern LIBRARY = Pattern.compile("java\\.lang\\.(System\\.arraycopy|"
            + "(Math|Integer|Long)\\.(compare|max|min|abs|bitCount|floorDiv|floorMod|signum))");
    private static final Set<String> COUNTED_BY_ONE = Set.of("++", "--");
    private static final int PARAMETERS_MOST = 7, LINES_MOST = 60, DEEPEST = 8, CLASSES_MOST = 12, FIELDS_MOST = 20;

    private final CompilationUnitTree unit;
    private final Trees trees;
    private final Map<ExecutableElement, Set<ExecutableElement>> calls = new HashMap<>();
    private final Map<ExecutableElement, MethodTree> methods = new HashMap<>();
    private int classes;

    private LanguageTest(CompilationUnitTree unit, Trees trees) {
        this.unit = unit;
        this.trees = trees;
    }

    public static void main(String[] args) throws IOException {
        JavaCompiler compiler = ToolProvider.getSystemJavaCompiler();
        try (StandardJavaFileManager files = compiler.getStandardFileManager(null, null, null)) {
            JavacTask task = (JavacTask) compiler.getTask(null, files, null, List.of("-proc:none"), null,
                    files.getJavaFileObjects(FILE));
            CompilationUnitTree unit = task.parse().iterator().next();
            task.analyze();
            LanguageTest test = new LanguageTest(unit, Trees.instance(task));
            test.scan(unit, null);
            test.wholeFile();
        }
        Check.end("LanguageTest");
    }

    private void rule(int number, boolean holds, String what, Tree where) {
        long at = trees.getSourcePositions().getStartPosition(unit, where);
        long line = at < 0 ? 0 : unit.getLineMap().getLineNumber(at);
        Check.due("rule " + number + ", line " + line + ": " + what, holds ? 1 : 0, 1);
    }

    private Element element(Tree tree) {
        return trees.getElement(new TreePath(getCurrentPath(), tree));
    }

    private TypeMirror type(Tree tree) {
        return trees.getTypeMirror(new TreePath(getCurrentPath(), tree));
    }

    private MethodTree method() {
        for (TreePath at = getCurrentPath(); at != null; at = at.getParentPath()) {
            if (at.getLeaf() instanceof MethodTree) {
                return (MethodTree) at.getLeaf();
            }
        }
        return null;
    }

    private static boolean isConstructor(MethodTree method) {
        return method != null && method.getName().contentEquals("<init>");
    }

    @Override
    public Void scan(Tree tree, Void nothing) {
        if (tree != null) {
            int number = tree.getKind() == Tree.Kind.LAMBDA_EXPRESSION ? 2 : 6;
            rule(number, !RULED_OUT.contains(tree.getKind()), "no " + tree.getKind(), tree);
        }
        return super.scan(tree, nothing);
    }

    @Override
    public Void visitClass(ClassTree one, Void nothing) {
        classes++;
        boolean outer = getCurrentPath().getParentPath().getLeaf() == unit;
        Set<Modifier> flags = one.getModifiers().getFlags();
        rule(1, !outer || flags.equals(Set.of(Modifier.PUBLIC, Modifier.FINAL)), "public and final", one);
        rule(2, outer || getCurrentPath().getParentPath().getLeaf() instanceof ClassTree, "no local class", one);
        rule(2, outer || flags.contains(Modifier.STATIC), "classes inside are static", one);
        rule(1, outer || !flags.contains(Modifier.PUBLIC) && !flags.contains(Modifier.PROTECTED), "not public", one);
        rule(2, one.getKind() == Tree.Kind.CLASS, "classes alone are used", one);
        int fields = 0;
        for (Tree member : one.getMembers()) {
            rule(5, !(member instanceof BlockTree), "no initialiser block", member);
            boolean field = member instanceof VariableTree;
            fields += field && !isStatic((VariableTree) member) ? 1 : 0;
        }
        rule(11, fields <= FIELDS_MOST, "so many fields: " + fields, one);
        return super.visitClass(one, nothing);
    }

    private static boolean isStatic(VariableTree one) {
        return one.getModifiers().getFlags().contains(Modifier.STATIC);
    }

    @Override
    public Void visitVariable(VariableTree one, Void nothing) {
        TypeMirror type = trees.getElement(getCurrentPath()).asType();
        rule(3, isLeft(type), one.getName() + " is " + type, one);
        if (isStatic(one)) {
            rule(5, one.getModifiers().getFlags().contains(Modifier.FINAL), one.getName() + " is final", one);
            boolean array = type.getKind() == TypeKind.ARRAY;
            boolean written = one.getInitializer() instanceof NewArrayTree
                    && ((NewArrayTree) one.getInitializer()).getInitializers() != null;
            Object value = ((VariableElement) trees.getElement(getCurrentPath())).getConstantValue();
            rule(5, array ? written : value != null, one.getName() + " is written out", one);
        }
        return super.visitVariable(one, nothing);
    }

    /** Numbers, classes of its own, and arrays of these: of one dimension, or of two of numbers. */
    private boolean isLeft(TypeMirror type) {
        if (type.getKind() == TypeKind.ARRAY) {
            TypeMirror of = ((ArrayType) type).getComponentType();
            boolean two = of.getKind() == TypeKind.ARRAY;
            TypeMirror at = two ? ((ArrayType) of).getComponentType() : of;
            return at.getKind() != TypeKind.ARRAY && (two ? at.getKind().isPrimitive() : isLeft(at));
        }
        boolean number = type.getKind() == TypeKind.INT || type.getKind() == TypeKind.LONG;
        return number || type.getKind() == TypeKind.BOOLEAN || type.getKind() == TypeKind.VOID
                || type.toString().startsWith("AntBand");
    }

    @Override
    public Void visitMethod(MethodTree one, Void nothing) {
        ExecutableElement is = (ExecutableElement) trees.getElement(getCurrentPath());
        methods.put(is, one);
        calls.putIfAbsent(is, new HashSet<>());
        rule(3, isLeft(is.getReturnType()), one.getName() + " answers " + is.getReturnType(), one);
        rule(11, one.getParameters().size() <= PARAMETERS_MOST, one.getName() + " takes no more", one);
        rule(6, one.getThrows().isEmpty(), one.getName() + " throws nothing", one);
        Set<Modifier> flags = one.getModifiers().getFlags();
        rule(6, !flags.contains(Modifier.SYNCHRONIZED) && !flags.contains(Modifier.NATIVE), one.getName() + " is plain", one);
        long from = trees.getSourcePositions().getStartPosition(unit, one);
        long to = trees.getSourcePositions().getEndPosition(unit, one);
        long lines = unit.getLineMap().getLineNumber(Math.max(from, to)) - unit.getLineMap().getLineNumber(from) + 1;
        rule(11, lines <= LINES_MOST, one.getName() + " is short: " + lines, one);
        return super.visitMethod(one, nothing);
    }

    @Override
    public Void visitMethodInvocation(MethodInvocationTree one, Void nothing) {
        ExecutableElement is = (ExecutableElement) element(one.getMethodSelect());
        boolean above = one.getMethodSelect().toString().equals("super");
        String name = is.getEnclosingElement() + "." + is.getSimpleName();
        boolean own = name.startsWith("AntBand");
        rule(4, above || own || LIBRARY.matcher(name).matches(), "the library: " + name, one);
        rule(12, above || !isConstructor(method()), "a constructor calls no method: " + name, one);
        if (own) {
            boolean again = method() != null && methods.get(is) == method();
            boolean counted = one.getArguments().stream().anyMatch(arg -> arg.toString().equals("depth + 1"));
            rule(8, !again || counted, "the depth is carried: " + one, one);
            note(is);
        }
        return super.visitMethodInvocation(one, nothing);
    }

    private void note(ExecutableElement called) {
        MethodTree from = method();
        if (from != null) {
            Element is = trees.getElement(trees.getPath(unit, from));
            calls.computeIfAbsent((ExecutableElement) is, key -> new HashSet<>()).add(called);
        }
    }

    @Override
    public Void visitNewClass(NewClassTree one, Void nothing) {
        rule(2, one.getClassBody() == null, "no anonymous class", one);
        rule(4, type(one.getIdentifier()).toString().startsWith("AntBand"), "objects of its own classes", one);
        rule(12, isConstructor(method()), "objects are made by constructors alone", one);
        note((ExecutableElement) trees.getElement(getCurrentPath()));
        return super.visitNewClass(one, nothing);
    }

    @Override
    public Void visitNewArray(NewArrayTree one, Void nothing) {
        rule(12, method() == null || isConstructor(method()), "arrays are made by constructors alone", one);
        for (ExpressionTree length : one.getDimensions()) {
            rule(7, isConstant(length), "a length is a constant: " + length, one);
        }
        return super.visitNewArray(one, nothing);
    }

    private boolean isConstant(ExpressionTree tree) {
        Element is = element(tree);
        boolean named = is instanceof VariableElement && ((VariableElement) is).getConstantValue() != null;
        return named || tree.getKind() == Tree.Kind.INT_LITERAL;
    }

    @Override
    public Void visitTypeCast(TypeCastTree one, Void nothing) {
        rule(6, type(one.getType()).getKind().isPrimitive(), "casts of numbers alone: " + one, one);
        return super.visitTypeCast(one, nothing);
    }

    @Override
    public Void visitBinary(BinaryTree one, Void nothing) {
        boolean numbers = type(one.getLeftOperand()).getKind().isPrimitive()
                && type(one.getRightOperand()).getKind().isPrimitive();
        rule(6, numbers, "numbers alone: " + one, one);
        if (one.getKind() == Tree.Kind.DIVIDE || one.getKind() == Tree.Kind.REMAINDER) {
            divisor(one.getRightOperand(), one);
        }
        return super.visitBinary(one, nothing);
    }

    @Override
    public Void visitCompoundAssignment(CompoundAssignmentTree one, Void nothing) {
        if (one.getKind() == Tree.Kind.DIVIDE_ASSIGNMENT || one.getKind() == Tree.Kind.REMAINDER_ASSIGNMENT) {
            divisor(one.getExpression(), one);
        }
        return super.visitCompoundAssignment(one, nothing);
    }

    /** A constant, or looked at in the same method. */
    private void divisor(ExpressionTree by, Tree where) {
        boolean zero = by.toString().equals("0");
        boolean tested = method() != null
                && Pattern.compile(Pattern.quote(by.toString()) + " (>|<|!=) [01]\\b").matcher(method().toString()).find();
        rule(7, isConstant(by) ? !zero : tested, "a divisor is looked at: " + by, where);
    }

    @Override
    public Void visitAssignment(AssignmentTree one, Void nothing) {
        if (one.getVariable() instanceof ArrayAccessTree) {
            Tree array = ((ArrayAccessTree) one.getVariable()).getExpression();
            Element is = trees.getElement(new TreePath(new TreePath(getCurrentPath(), one.getVariable()), array));
            rule(5, is == null || !is.getModifiers().contains(Modifier.STATIC), "a static array stays: " + one, one);
        }
        return super.visitAssignment(one, nothing);
    }

    /** It counts: what it begins with is looked at ahead of each turn, and is another behind it. */
    @Override
    public Void visitForLoop(ForLoopTree one, Void nothing) {
        boolean begins = one.getInitializer().size() == 1 && one.getInitializer().get(0) instanceof VariableTree;
        rule(9, begins && one.getCondition() != null && one.getUpdate().size() == 1, "a counter", one);
        if (begins && one.getCondition() != null) {
            String counter = ((VariableTree) one.getInitializer().get(0)).getName().toString();
            rule(9, names(one.getCondition().toString(), counter), "its bound", one);
            String update = one.getUpdate().toString().replace(";", "");
            rule(9, update.equals(counter + "++") || update.equals(counter + "--"), "it counts: " + update, one);
        }
        return super.visitForLoop(one, nothing);
    }

    @Override
    public Void visitWhileLoop(WhileLoopTree one, Void nothing) {
        Set<String> counters = new HashSet<>();
        new TreePathScanner<Void, Void>() {
            @Override
            public Void visitUnary(UnaryTree step, Void none) {
                String told = step.toString();
                String counter = told.replace("++", "").replace("--", "");
                if (COUNTED_BY_ONE.contains(told.replace(counter, ""))) {
                    counters.add(counter);
                }
                return super.visitUnary(step, none);
            }
        }.scan(new TreePath(getCurrentPath(), one.getStatement()), null);
        boolean counts = counters.stream().anyMatch(counter -> names(one.getCondition().toString(), counter));
        rule(9, counts, "what a while looks at is counted: " + one.getCondition(), one);
        return super.visitWhileLoop(one, nothing);
    }

    private static boolean names(String text, String word) {
        return Pattern.compile("\\b" + Pattern.quote(word) + " (<|<=|>|>=) ").matcher(text).find();
    }

    /** No field of the library is used, so neither its streams nor its clocks. */
    @Override
    public Void visitMemberSelect(MemberSelectTree one, Void nothing) {
        Element is = trees.getElement(getCurrentPath());
        if (is != null && is.getKind() == ElementKind.FIELD && !one.getIdentifier().contentEquals("length")) {
            rule(4, is.getEnclosingElement().toString().startsWith("AntBand"), "fields of its own: " + one, one);
        }
        return super.visitMemberSelect(one, nothing);
    }

    @Override
    public Void visitIdentifier(IdentifierTree one, Void nothing) {
        boolean bare = one.getName().contentEquals("this")
                && !(getCurrentPath().getParentPath().getLeaf() instanceof MemberSelectTree);
        rule(12, !bare, "nothing hands out the object itself", one);
        return super.visitIdentifier(one, nothing);
    }

    private void wholeFile() {
        rule(11, classes <= CLASSES_MOST, "so many classes: " + classes, unit);
        int deepest = 0;
        for (ExecutableElement one : calls.keySet()) {
            deepest = Math.max(deepest, deep(one, new ArrayList<>()));
        }
        rule(11, deepest > 1 && deepest <= DEEPEST, "calls go so deep: " + deepest, unit);
    }

    /** How many calls stand open at once below one, itself counted; one that comes round again carries its depth. */
    private int deep(ExecutableElement one, List<ExecutableElement> open) {
        if (open.contains(one)) {
            MethodTree round = methods.get(one);
            boolean guarded = round != null && names(round.toString(), "depth")
                    && round.getParameters().stream().anyMatch(p -> p.getName().contentEquals("depth"));
            rule(8, guarded, "recursion has a guard: " + one, round == null ? unit : round);
            rule(8, open.get(open.size() - 1) == one, "what calls itself does so itself: " + one, unit);
            return 0;
        }
        open.add(one);
        int below = 0;
        for (ExecutableElement called : calls.getOrDefault(one, Set.of())) {
            below = Math.max(below, deep(called, open));
        }
        open.remove(open.size() - 1);
        return below + 1;
    }
}
