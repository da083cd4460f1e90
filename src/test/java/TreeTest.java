import com.sun.source.tree.ArrayAccessTree;
import com.sun.source.tree.BinaryTree;
import com.sun.source.tree.BlockTree;
import com.sun.source.tree.ClassTree;
import com.sun.source.tree.CompilationUnitTree;
import com.sun.source.tree.CompoundAssignmentTree;
import com.sun.source.tree.ExpressionTree;
import com.sun.source.tree.ForLoopTree;
import com.sun.source.tree.IdentifierTree;
import com.sun.source.tree.InstanceOfTree;
import com.sun.source.tree.LineMap;
import com.sun.source.tree.LiteralTree;
import com.sun.source.tree.MethodInvocationTree;
import com.sun.source.tree.MethodTree;
import com.sun.source.tree.NewArrayTree;
import com.sun.source.tree.NewClassTree;
import com.sun.source.tree.Tree;
import com.sun.source.tree.TypeCastTree;
import com.sun.source.tree.VariableTree;
import com.sun.source.tree.WhileLoopTree;
import com.sun.source.util.JavacTask;
import com.sun.source.util.TreePath;
import com.sun.source.util.TreePathScanner;
import com.sun.source.util.Trees;
import java.io.IOException;
import java.nio.file.Path;
import java.util.ArrayList;
import java.util.HashSet;
import java.util.List;
import java.util.Map;
import java.util.Set;
import java.util.TreeMap;
import java.util.TreeSet;
import javax.lang.model.element.Element;
import javax.lang.model.element.ElementKind;
import javax.lang.model.element.ExecutableElement;
import javax.lang.model.element.Modifier;
import javax.lang.model.element.VariableElement;
import javax.lang.model.type.ArrayType;
import javax.lang.model.type.TypeKind;
import javax.lang.model.type.TypeMirror;
import javax.tools.JavaCompiler;
import javax.tools.StandardJavaFileManager;
import javax.tools.ToolProvider;

/**
 * The rules of LANGUAGE.md, looked for in the tree that javac makes of the source, with all names resolved. Where the
 * class keeps to less than a rule leaves (no call makes an object, no doubles, no lists), that is what is looked for.
 *
 * <p>{@code java TreeTest path} looks at another source.
 */
public final class TreeTest extends TreePathScanner<Void, Void> {
    private static final String SOURCE = "src/main/java/ConkerYard.java";
    private static final Set<String> LIBRARY = Set.of("java.lang.Math.min", "java.lang.Math.max", "java.lang.Math.abs",
        "java.lang.Integer.bitCount", "java.lang.System.arraycopy", "java.lang.String.length", "java.lang.String.charAt");
    private static final Set<String> CLASSES = Set.of("java.lang.Math", "java.lang.Integer", "java.lang.System",
        "java.lang.String");
    private static final Set<String> CONSTANTS = Set.of("int", "long", "boolean", "char", "java.lang.String");
    /** Divisors that are no constants; each is tested for 0 on the way to it, which a reader has to see. */
    private static final Set<String> TESTED_DIVISORS = Set.of("all", "right", "trial.size");
    private static final Set<Tree.Kind> FORBIDDEN = Set.of(Tree.Kind.THROW, Tree.Kind.TRY, Tree.Kind.CATCH,
        Tree.Kind.SYNCHRONIZED, Tree.Kind.ASSERT, Tree.Kind.LAMBDA_EXPRESSION, Tree.Kind.MEMBER_REFERENCE,
        Tree.Kind.SWITCH_EXPRESSION, Tree.Kind.DO_WHILE_LOOP, Tree.Kind.IMPORT, Tree.Kind.PACKAGE, Tree.Kind.MODULE,
        Tree.Kind.DOUBLE_LITERAL, Tree.Kind.FLOAT_LITERAL, Tree.Kind.ANNOTATION, Tree.Kind.INTERSECTION_TYPE);

    private final Trees trees;
    private final CompilationUnitTree unit;
    private final LineMap lines;
    private final Map<String, Set<String>> calls = new TreeMap<>();
    private final Map<String, MethodTree> methods = new TreeMap<>();
    private final Set<String> publicNames = new TreeSet<>();
    private final List<String> otherNames = new ArrayList<>();
    private int classes = 0;

    private TreeTest(Trees trees, CompilationUnitTree unit) {
        this.trees = trees;
        this.unit = unit;
        this.lines = unit.getLineMap();
    }

    public static void main(String[] args) throws IOException {
        JavaCompiler compiler = ToolProvider.getSystemJavaCompiler();
        try (StandardJavaFileManager files = compiler.getStandardFileManager(null, null, null)) {
            Path source = Path.of(args.length > 0 ? args[0] : SOURCE);
            JavacTask task = (JavacTask) compiler.getTask(null, files, null, List.of("--release", "17"), null,
                files.getJavaFileObjects(source));
            CompilationUnitTree unit = task.parse().iterator().next();
            task.analyze();
            TreeTest test = new TreeTest(Trees.instance(task), unit);
            test.scan(unit, null);
            test.names();
            test.depths();
        }
        Due.close("TreeTest");
    }

    private void holds(Tree tree, String what, boolean so) {
        long place = trees.getSourcePositions().getStartPosition(unit, tree);
        Due.holds("line " + (place < 0 ? 0 : lines.getLineNumber(place)) + ": " + what, so);
    }

    private Element element(Tree tree) {
        return trees.getElement(new TreePath(getCurrentPath(), tree));
    }

    private TypeMirror type(Tree tree) {
        return trees.getTypeMirror(new TreePath(getCurrentPath(), tree));
    }

    private boolean isOwn(Element element) {
        Element up = element;
        while (up.getEnclosingElement() != null && up.getEnclosingElement().getKind() != ElementKind.PACKAGE) {
            up = up.getEnclosingElement();
        }
        return up.getSimpleName().contentEquals("ConkerYard");
    }

    // ---- what stands in the tree at all

    @Override
    public Void scan(Tree tree, Void none) {
        if (tree != null) {
            holds(tree, "no " + tree.getKind(), !FORBIDDEN.contains(tree.getKind()));
        }
        return super.scan(tree, none);
    }

    @Override
    public Void visitClass(ClassTree tree, Void none) {
        classes++;
        Set<Modifier> modifiers = tree.getModifiers().getFlags();
        boolean outer = getCurrentPath().getParentPath().getLeaf().getKind() == Tree.Kind.COMPILATION_UNIT;
        boolean inner = getCurrentPath().getParentPath().getLeaf() instanceof ClassTree;
        boolean shown = modifiers.contains(Modifier.PUBLIC) || modifiers.contains(Modifier.PROTECTED);
        holds(tree, "a class in its place", outer || inner && modifiers.contains(Modifier.STATIC) && !shown);
        holds(tree, "extends nothing", tree.getExtendsClause() == null && tree.getImplementsClause().isEmpty());
        holds(tree, "at most twelve classes", classes <= 12);
        int fields = 0;
        for (Tree member : tree.getMembers()) {
            holds(member, "no initialiser block", !(member instanceof BlockTree));
            boolean isField = member instanceof VariableTree;
            fields += isField && !((VariableTree) member).getModifiers().getFlags().contains(Modifier.STATIC) ? 1 : 0;
        }
        holds(tree, "at most twenty fields", fields <= 20);
        return super.visitClass(tree, none);
    }

    @Override
    public Void visitMethod(MethodTree tree, Void none) {
        ExecutableElement method = (ExecutableElement) trees.getElement(getCurrentPath());
        String name = name(method);
        holds(tree, "one method of this name: " + name, methods.put(name, tree) == null);
        calls.computeIfAbsent(name, key -> new TreeSet<>());
        holds(tree, "at most seven parameters", tree.getParameters().size() <= 7);
        long from = trees.getSourcePositions().getStartPosition(unit, tree);
        long to = trees.getSourcePositions().getEndPosition(unit, tree);
        holds(tree, "at most sixty lines", to < 0 || lines.getLineNumber(to) - lines.getLineNumber(from) < 60);
        if (method.getModifiers().contains(Modifier.PUBLIC)) {
            publicNames.add(method.getSimpleName().toString());
            holds(tree, "public in the outer class alone",
                method.getEnclosingElement().getSimpleName().contentEquals("ConkerYard"));
        } else {
            otherNames.add(method.getSimpleName().toString());
        }
        return super.visitMethod(tree, none);
    }

    @Override
    public Void visitVariable(VariableTree tree, Void none) {
        VariableElement variable = (VariableElement) trees.getElement(getCurrentPath());
        holds(tree, "a type of rule 3: " + variable.asType(), isLeft(variable.asType()));
        if (variable.getModifiers().contains(Modifier.STATIC)) {
            holds(tree, "a constant", variable.getModifiers().contains(Modifier.FINAL)
                && CONSTANTS.contains(variable.asType().toString()) && variable.getConstantValue() != null);
        }
        return super.visitVariable(tree, none);
    }

    private boolean isLeft(TypeMirror type) {
        boolean isArray = type.getKind() == TypeKind.ARRAY;
        TypeMirror bare = isArray ? ((ArrayType) type).getComponentType() : type;
        boolean isFloating = bare.getKind() == TypeKind.DOUBLE || bare.getKind() == TypeKind.FLOAT;
        boolean isText = bare.toString().equals("java.lang.String");
        boolean isOwn = bare.getKind() == TypeKind.DECLARED && bare.toString().startsWith("ConkerYard");
        return bare.getKind().isPrimitive() && !isFloating || isText && !isArray || isOwn;
    }

    @Override
    public Void visitIdentifier(IdentifierTree tree, Void none) {
        Element element = trees.getElement(getCurrentPath());
        if (element != null && (element.getKind().isClass() || element.getKind().isInterface())) {
            holds(tree, "a class of rule 4: " + element, isOwn(element) || CLASSES.contains(element.toString()));
        }
        return super.visitIdentifier(tree, none);
    }

    @Override
    public Void visitLiteral(LiteralTree tree, Void none) {
        String text = tree.getValue() instanceof String ? (String) tree.getValue() : "";
        holds(tree, "signs 1 to 127", text.chars().allMatch(sign -> sign >= 1 && sign <= 127));
        return super.visitLiteral(tree, none);
    }

    // ---- what could throw, or make an object

    private boolean isMaking() {
        TreePath path = getCurrentPath();
        while (path != null && !(path.getLeaf() instanceof MethodTree)) {
            path = path.getParentPath();
        }
        return path == null || ((MethodTree) path.getLeaf()).getName().contentEquals("<init>");
    }

    @Override
    public Void visitNewClass(NewClassTree tree, Void none) {
        holds(tree, "an object is made by a constructor or a field alone", isMaking());
        holds(tree, "no class without a name", tree.getClassBody() == null);
        Element made = trees.getElement(getCurrentPath());
        holds(tree, "an own object", made != null && isOwn(made));
        addCall(name(made));
        return super.visitNewClass(tree, none);
    }

    @Override
    public Void visitNewArray(NewArrayTree tree, Void none) {
        holds(tree, "an array is made by a constructor or a field alone", isMaking());
        for (ExpressionTree length : tree.getDimensions()) {
            holds(tree, "a constant length", constant(length) != null);
        }
        return super.visitNewArray(tree, none);
    }

    @Override
    public Void visitTypeCast(TypeCastTree tree, Void none) {
        holds(tree, "a cast of numbers", type(tree.getType()).getKind().isPrimitive()
            && type(tree.getExpression()).getKind().isPrimitive());
        return super.visitTypeCast(tree, none);
    }

    @Override
    public Void visitInstanceOf(InstanceOfTree tree, Void none) {
        holds(tree, "no instanceof is needed", false);
        return super.visitInstanceOf(tree, none);
    }

    /** A constant's value as far as names, numbers and what is reckoned of two of these go, else null. */
    private Number constant(ExpressionTree tree) {
        if (tree instanceof LiteralTree && ((LiteralTree) tree).getValue() instanceof Number) {
            return (Number) ((LiteralTree) tree).getValue();
        }
        if (tree instanceof BinaryTree) {
            Number left = constant(((BinaryTree) tree).getLeftOperand());
            Number right = constant(((BinaryTree) tree).getRightOperand());
            return left == null || right == null ? null : left.longValue() + right.longValue();
        }
        Element element = element(tree);
        Object value = element instanceof VariableElement ? ((VariableElement) element).getConstantValue() : null;
        return value instanceof Number ? (Number) value : null;
    }

    private void divisor(ExpressionTree tree) {
        Number value = constant(tree);
        holds(tree, "a divisor that can't be 0: " + tree,
            value == null ? TESTED_DIVISORS.contains(tree.toString()) : value.longValue() != 0);
    }

    @Override
    public Void visitBinary(BinaryTree tree, Void none) {
        boolean isText = isObject(tree.getLeftOperand()) || isObject(tree.getRightOperand());
        switch (tree.getKind()) {
            case DIVIDE, REMAINDER -> divisor(tree.getRightOperand());
            case PLUS -> holds(tree, "no joining by +", !isText);
            case EQUAL_TO, NOT_EQUAL_TO -> holds(tree, "objects are held against null alone", !isText
                || tree.getRightOperand().getKind() == Tree.Kind.NULL_LITERAL);
            default -> { }
        }
        return super.visitBinary(tree, none);
    }

    private boolean isObject(ExpressionTree tree) {
        return type(tree).getKind() == TypeKind.DECLARED;
    }

    @Override
    public Void visitCompoundAssignment(CompoundAssignmentTree tree, Void none) {
        holds(tree, "no joining by +=", !isObject(tree.getVariable()));
        boolean divides = tree.getKind() == Tree.Kind.DIVIDE_ASSIGNMENT || tree.getKind() == Tree.Kind.REMAINDER_ASSIGNMENT;
        if (divides) {
            divisor(tree.getExpression());
        }
        return super.visitCompoundAssignment(tree, none);
    }

    @Override
    public Void visitArrayAccess(ArrayAccessTree tree, Void none) {
        Number index = constant(tree.getIndex());
        holds(tree, "no index below 0", index == null || index.longValue() >= 0);
        return super.visitArrayAccess(tree, none);
    }

    // ---- loops and calls

    @Override
    public Void visitForLoop(ForLoopTree tree, Void none) {
        holds(tree, "a counter against a bound", tree.getCondition() != null && tree.getUpdate().size() == 1
            && tree.getCondition().toString().contains(tree.getUpdate().get(0).toString().split("\\W")[0]));
        return super.visitForLoop(tree, none);
    }

    /** The class has such loops for one thing alone: along bytes or bits, till there is no more. */
    @Override
    public Void visitWhileLoop(WhileLoopTree tree, Void none) {
        String head = tree.getCondition().toString();
        holds(tree, "a bound of its own: " + head, head.matches("\\((place < length|least < CONKERS_MOST) && .*"));
        return super.visitWhileLoop(tree, none);
    }

    private static String name(Element method) {
        return method.getEnclosingElement().getSimpleName() + "." + method.getSimpleName();
    }

    /** What a field's initialiser makes is called by the constructor. */
    private void addCall(String called) {
        TreePath path = getCurrentPath();
        TreePath type = null;
        while (path != null && !(path.getLeaf() instanceof MethodTree)) {
            type = type == null && path.getLeaf() instanceof ClassTree ? path : type;
            path = path.getParentPath();
        }
        Element caller = path != null ? trees.getElement(path) : null;
        String name = caller != null ? name(caller) : trees.getElement(type).getSimpleName() + ".<init>";
        calls.computeIfAbsent(name, key -> new TreeSet<>()).add(called);
    }

    @Override
    public Void visitMethodInvocation(MethodInvocationTree tree, Void none) {
        Element called = trees.getElement(getCurrentPath());
        boolean isOwn = isOwn(called);
        String full = called.getEnclosingElement() + "." + called.getSimpleName();
        boolean isSuper = full.equals("java.lang.Object.<init>");
        holds(tree, "a call of rule 4: " + full, isOwn || isSuper || LIBRARY.contains(full));
        if (isOwn) {
            addCall(name(called));
            holds(tree, "a public call is not used inside: " + full, !called.getModifiers().contains(Modifier.PUBLIC));
        }
        return super.visitMethodInvocation(tree, none);
    }

    // ---- what is seen of all methods together

    private void names() {
        Due.due("public methods", publicNames.size() - 1, 36);
        Due.holds("the constructor is public", publicNames.contains("<init>"));
        for (String name : otherNames) {
            Due.holds(name + " bears no public name", name.equals("<init>") || !publicNames.contains(name));
        }
    }

    /** Whom calls lead to from here, by one or more. */
    private Set<String> reach(String from) {
        Set<String> seen = new HashSet<>();
        List<String> open = new ArrayList<>(calls.get(from));
        while (!open.isEmpty()) {
            String name = open.remove(open.size() - 1);
            if (seen.add(name)) {
                open.addAll(calls.getOrDefault(name, Set.of()));
            }
        }
        return seen;
    }

    private void depths() {
        for (Map.Entry<String, MethodTree> method : methods.entrySet()) {
            String name = method.getKey();
            if (reach(name).contains(name)) {
                List<? extends VariableTree> told = method.getValue().getParameters();
                boolean carries = !told.isEmpty() && told.get(told.size() - 1).getName().contentEquals("depth");
                Due.holds(name + " calls itself and carries the depth", carries);
            }
            List<String> deepest = deepest(name, new ArrayList<>());
            Due.holds("at most eight deep: " + deepest, deepest.size() <= 8);
        }
    }

    /** The longest row of calls, none of them twice, so that one round of a recursion counts. */
    private List<String> deepest(String name, List<String> above) {
        above.add(name);
        List<String> most = new ArrayList<>(above);
        for (String next : calls.getOrDefault(name, Set.of())) {
            if (!above.contains(next)) {
                List<String> row = deepest(next, above);
                most = row.size() > most.size() ? row : most;
            }
        }
        above.remove(above.size() - 1);
        return most;
    }
}
