import com.sun.source.tree.ArrayAccessTree;
import com.sun.source.tree.AssignmentTree;
import com.sun.source.tree.BinaryTree;
import com.sun.source.tree.BlockTree;
import com.sun.source.tree.ClassTree;
import com.sun.source.tree.CompilationUnitTree;
import com.sun.source.tree.CompoundAssignmentTree;
import com.sun.source.tree.ExpressionTree;
import com.sun.source.tree.ForLoopTree;
import com.sun.source.tree.LiteralTree;
import com.sun.source.tree.MethodInvocationTree;
import com.sun.source.tree.MethodTree;
import com.sun.source.tree.NewArrayTree;
import com.sun.source.tree.NewClassTree;
import com.sun.source.tree.Tree;
import com.sun.source.tree.UnaryTree;
import com.sun.source.tree.VariableTree;
import com.sun.source.util.JavacTask;
import com.sun.source.util.TreePath;
import com.sun.source.util.TreePathScanner;
import com.sun.source.util.Trees;
import java.io.IOException;
import java.nio.file.Path;
import java.util.EnumSet;
import java.util.List;
import java.util.Map;
import java.util.Set;
import java.util.TreeMap;
import java.util.TreeSet;
import javax.lang.model.element.Element;
import javax.lang.model.element.Modifier;
import javax.tools.JavaCompiler;
import javax.tools.StandardJavaFileManager;
import javax.tools.ToolProvider;

/** The rules of ../shared/LANGUAGE.md that can be seen in the class as the compiler reads it; FaceTest has rule 1. */
public final class LanguageTest extends TreePathScanner<Void, Void> {
    private static final Path SOURCE = Path.of("src/main/java/BillTender.java");

    // Of what rules 2, 3, 5, 6 and 12 refuse; some of it they allow in part, but the class needs none.
    private static final Set<Tree.Kind> REFUSED = EnumSet.of(Tree.Kind.LAMBDA_EXPRESSION, Tree.Kind.MEMBER_REFERENCE, Tree.Kind.THROW,
        Tree.Kind.TRY, Tree.Kind.CATCH, Tree.Kind.SYNCHRONIZED, Tree.Kind.ASSERT, Tree.Kind.BINDING_PATTERN, Tree.Kind.INSTANCE_OF,
        Tree.Kind.SWITCH_EXPRESSION, Tree.Kind.IMPORT, Tree.Kind.PACKAGE, Tree.Kind.ANNOTATION, Tree.Kind.ENHANCED_FOR_LOOP);
    private static final Set<String> TYPES = Set.of("int", "long", "boolean", "int[]", "long[]", "String", "Book[]",
        "Book", "Ledger", "Past", "Sale", "Tape", "Reader", "Speller");
    private static final Set<String> STATIC_TYPES = Set.of("int", "long", "boolean", "char", "String", "int[]");
    private static final Set<String> LIBRARY = Set.of("Math.min", "Math.max", "String.length", "String.charAt", "Object.<init>");

    private final Trees trees;
    private final CompilationUnitTree unit;
    private final Map<String, Set<String>> calls = new TreeMap<>();
    private final Map<String, Integer> depths = new TreeMap<>();
    private int classes = 0;

    private LanguageTest(Trees trees, CompilationUnitTree unit) {
        this.trees = trees;
        this.unit = unit;
    }

    public static void main(String[] args) throws IOException {
        JavaCompiler compiler = ToolProvider.getSystemJavaCompiler();
        try (StandardJavaFileManager files = compiler.getStandardFileManager(null, null, null)) {
            List<String> options = List.of("--release", "17", "-proc:none");
            JavacTask task = (JavacTask) compiler.getTask(null, files, null, options, null, files.getJavaFileObjects(SOURCE));
            CompilationUnitTree unit = task.parse().iterator().next();
            task.analyze();
            LanguageTest test = new LanguageTest(Trees.instance(task), unit);
            Check.due("rule 1: one class in the file", unit.getTypeDecls().size(), 1);
            test.scan(unit, null);
            test.depth();
        }
        Check.finish();
    }

    private void due(int rule, String what, Tree where, boolean holds) {
        Check.due("rule " + rule + ", line " + line(trees.getSourcePositions().getStartPosition(unit, where)) + ": " + what, holds, true);
    }

    private long line(long position) {
        return unit.getLineMap().getLineNumber(position);
    }

    @Override
    public Void scan(Tree tree, Void nothing) {
        if (tree != null) {
            due(6, tree.getKind() + " is refused", tree, !REFUSED.contains(tree.getKind()));
        }
        return super.scan(tree, nothing);
    }

    @Override
    public Void visitClass(ClassTree tree, Void nothing) {
        classes++;
        Set<Modifier> flags = tree.getModifiers().getFlags();
        boolean outermost = getCurrentPath().getParentPath().getLeaf() == unit;
        boolean inside = getCurrentPath().getParentPath().getParentPath() != null
            && getCurrentPath().getParentPath().getParentPath().getLeaf() == unit;
        due(1, "one public final class", tree, !outermost || flags.equals(Set.of(Modifier.PUBLIC, Modifier.FINAL)));
        due(2, "classes inside are static and of the outermost one", tree, outermost || inside && flags.contains(Modifier.STATIC));
        long fields = tree.getMembers().stream().filter(m -> m instanceof VariableTree v && !isStatic(v)).count();
        due(11, "some twenty fields a class", tree, fields <= 20);
        due(11, "some twelve classes", tree, classes <= 12);
        return super.visitClass(tree, nothing);
    }

    private static boolean isStatic(VariableTree tree) {
        return tree.getModifiers().getFlags().contains(Modifier.STATIC);
    }

    @Override
    public Void visitBlock(BlockTree tree, Void nothing) {
        due(5, "no block of a class", tree, !(getCurrentPath().getParentPath().getLeaf() instanceof ClassTree));
        return super.visitBlock(tree, nothing);
    }

    @Override
    public Void visitVariable(VariableTree tree, Void nothing) {
        String type = tree.getType() == null ? "var" : tree.getType().toString();
        due(3, type + " is a type of the rules", tree, TYPES.contains(type));
        if (isStatic(tree)) {
            due(5, "static fields are final", tree, tree.getModifiers().getFlags().contains(Modifier.FINAL));
            due(5, "static fields are constants", tree, STATIC_TYPES.contains(type) && tree.getInitializer() != null);
            due(5, "static arrays are written out", tree,
                !type.endsWith("]") || tree.getInitializer().getKind() == Tree.Kind.NEW_ARRAY && tree.getInitializer().toString().contains("{"));
        }
        return super.visitVariable(tree, nothing);
    }

    @Override
    public Void visitLiteral(LiteralTree tree, Void nothing) {
        boolean plain = tree.getValue() == null || tree.getValue().toString().chars().allMatch(sign -> sign >= 1 && sign <= 127);
        due(4, "signs of texts are 1 to 127", tree, plain);
        due(3, "no doubles, no floats", tree, !(tree.getValue() instanceof Double) && !(tree.getValue() instanceof Float));
        return super.visitLiteral(tree, nothing);
    }

    @Override
    public Void visitAssignment(AssignmentTree tree, Void nothing) {
        notStatic(tree.getVariable());
        return super.visitAssignment(tree, nothing);
    }

    @Override
    public Void visitCompoundAssignment(CompoundAssignmentTree tree, Void nothing) {
        notStatic(tree.getVariable());
        divisor(tree.getKind(), tree.getExpression());
        return super.visitCompoundAssignment(tree, nothing);
    }

    @Override
    public Void visitUnary(UnaryTree tree, Void nothing) {
        notStatic(tree.getExpression());
        return super.visitUnary(tree, nothing);
    }

    private void notStatic(ExpressionTree changed) {
        if (changed instanceof ArrayAccessTree row) {
            Element element = trees.getElement(new TreePath(getCurrentPath(), row.getExpression()));
            due(5, "static arrays are never changed", changed, element == null || !element.getModifiers().contains(Modifier.STATIC));
        }
    }

    @Override
    public Void visitBinary(BinaryTree tree, Void nothing) {
        divisor(tree.getKind(), tree.getRightOperand());
        boolean joined = tree.getKind() == Tree.Kind.PLUS && (isText(tree.getLeftOperand()) || isText(tree.getRightOperand()));
        due(10, "texts aren't joined by +", tree, !joined);
        boolean same = tree.getKind() == Tree.Kind.EQUAL_TO || tree.getKind() == Tree.Kind.NOT_EQUAL_TO;
        due(6, "no == between texts", tree, !same || !isText(tree.getLeftOperand()));
        return super.visitBinary(tree, nothing);
    }

    private boolean isText(ExpressionTree tree) {
        return "java.lang.String".equals(String.valueOf(trees.getTypeMirror(new TreePath(getCurrentPath(), tree))));
    }

    // A divisor is a number other than 0, a constant, or a name that is compared with 0 or 1 in the same method.
    private void divisor(Tree.Kind kind, ExpressionTree by) {
        if (!Set.of(Tree.Kind.DIVIDE, Tree.Kind.REMAINDER, Tree.Kind.DIVIDE_ASSIGNMENT, Tree.Kind.REMAINDER_ASSIGNMENT).contains(kind)) {
            return;
        }
        String divisor = by.toString();
        TreePath path = getCurrentPath();
        while (!(path.getLeaf() instanceof MethodTree)) {
            path = path.getParentPath();
        }
        String method = path.getLeaf().toString();
        boolean tested = method.contains(divisor + " > 0") || method.contains(divisor + " < 1");
        due(7, "a divisor is looked at: " + divisor, by, divisor.matches("[1-9][0-9]*|MOST_ACTS") || tested);
    }

    @Override
    public Void visitForLoop(ForLoopTree tree, Void nothing) {
        due(9, "a loop has a bound and a counter", tree, tree.getCondition() != null && !tree.getUpdate().isEmpty());
        return super.visitForLoop(tree, nothing);
    }

    @Override
    public Void visitMethod(MethodTree tree, Void nothing) {
        due(11, "at most seven parameters", tree, tree.getParameters().size() <= 7);
        long from = line(trees.getSourcePositions().getStartPosition(unit, tree));
        long to = line(trees.getSourcePositions().getEndPosition(unit, tree));
        due(11, "methods of at most sixty lines", tree, to - from < 60);
        calls.putIfAbsent(here(), new TreeSet<>());
        return super.visitMethod(tree, nothing);
    }

    @Override
    public Void visitNewArray(NewArrayTree tree, Void nothing) {
        madeAtTheStart(tree);
        return super.visitNewArray(tree, nothing);
    }

    @Override
    public Void visitNewClass(NewClassTree tree, Void nothing) {
        madeAtTheStart(tree);
        calls(tree);
        return super.visitNewClass(tree, nothing);
    }

    @Override
    public Void visitMethodInvocation(MethodInvocationTree tree, Void nothing) {
        Element called = calls(tree);
        if (called != null && here().endsWith(".<init>") && !name(called).equals("Object.<init>")) {
            due(12, "a constructor calls what none can override: " + tree, tree, called.getModifiers().contains(Modifier.PRIVATE));
        }
        return super.visitMethodInvocation(tree, nothing);
    }

    // Stricter than the rule, so that no call adds to the room that all calls of a run share.
    private void madeAtTheStart(Tree tree) {
        due(12, "objects are made by constructors alone: " + tree, tree, here().endsWith(".<init>"));
    }

    private Element calls(Tree tree) {
        Element called = trees.getElement(getCurrentPath());
        due(4, "who is called is known: " + tree, tree, called != null);
        if (called != null) {
            boolean own = trees.getPath(called) != null;
            due(4, name(called) + " is in the library of the rules", tree, own || LIBRARY.contains(name(called)));
            calls.computeIfAbsent(here(), key -> new TreeSet<>()).add(name(called));
        }
        return called;
    }

    private static String name(Element method) {
        return method.getEnclosingElement().getSimpleName() + "." + method.getSimpleName();
    }

    /** The method that is being looked at; what a field begins with counts for its constructor. */
    private String here() {
        TreePath path = getCurrentPath();
        while (!(path.getLeaf() instanceof MethodTree) && !(path.getLeaf() instanceof ClassTree)) {
            path = path.getParentPath();
        }
        Element element = trees.getElement(path);
        return element.getKind().isClass() ? element.getSimpleName() + ".<init>" : name(element);
    }

    // A call from outside is the first one, what the library does for it the last.
    private void depth() {
        for (String method : calls.keySet()) {
            int deep = depthOf(method, 0);
            Check.due("rule 11: calls at most eight deep, " + method + " goes " + deep, deep <= 8, true);
        }
        Check.due("rules 8, 11: methods looked at", calls.size() > 100, true);
    }

    private int depthOf(String method, int above) {
        Check.due("rule 8: no recursion at " + method, above <= calls.size(), true);
        if (depths.containsKey(method) || above > calls.size()) {
            return depths.getOrDefault(method, 1000);
        }
        int deepest = 0;
        for (String called : calls.getOrDefault(method, Set.of())) {
            deepest = Math.max(deepest, depthOf(called, above + 1));
        }
        depths.put(method, deepest + 1);
        return deepest + 1;
    }
}
