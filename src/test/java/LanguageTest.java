import com.sun.source.tree.BinaryTree;
import com.sun.source.tree.BlockTree;
import com.sun.source.tree.ClassTree;
import com.sun.source.tree.CompilationUnitTree;
import com.sun.source.tree.CompoundAssignmentTree;
import com.sun.source.tree.ExpressionTree;
import com.sun.source.tree.ImportTree;
import com.sun.source.tree.LiteralTree;
import com.sun.source.tree.MethodInvocationTree;
import com.sun.source.tree.MethodTree;
import com.sun.source.tree.NewArrayTree;
import com.sun.source.tree.NewClassTree;
import com.sun.source.tree.ThrowTree;
import com.sun.source.tree.Tree;
import com.sun.source.tree.VariableTree;
import com.sun.source.util.JavacTask;
import com.sun.source.util.TreePath;
import com.sun.source.util.TreePathScanner;
import com.sun.source.util.Trees;
import java.io.IOException;
import java.nio.file.Files;
import java.nio.file.Path;
import java.util.HashMap;
import java.util.HashSet;
import java.util.List;
import java.util.Map;
import java.util.Set;
import javax.lang.model.element.Element;
import javax.lang.model.element.Modifier;
import javax.tools.JavaCompiler;
import javax.tools.StandardJavaFileManager;
import javax.tools.ToolProvider;

/**
 * The rules of LANGUAGE.md that the compiler's tree of the source shows. What it can't show, that
 * each index is looked at and each loop ends (rules 7 and 9), is left to ModelTest. Of what a rule
 * allows only what the class uses is let through: whoever needs more widens the list here.
 */
public final class LanguageTest extends TreePathScanner<Void, Void> {
    private static final Path SOURCE = Path.of("src/main/java/OrderedVersions.java");
    private static final String OWN = "OrderedVersions";
    private static final Set<String> IMPORTS = Set.of("java.util.NoSuchElementException");
    private static final Set<String> LIBRARY = Set.of("java.lang.System.arraycopy", "java.lang.Math.max",
        "java.lang.Math.min", "java.lang.Object.<init>");
    private static final Set<String> EXCEPTIONS = Set.of("IllegalStateException", "IllegalArgumentException",
        "IndexOutOfBoundsException", "ArithmeticException", "UnsupportedOperationException",
        "NoSuchElementException", "RuntimeException");
    private static final String TYPES = "(?:int|long|boolean|OrderedVersions(?:\\.\\w+)?)(?:\\[\\])?";
    private static final Set<Tree.Kind> REFUSED = Set.of(Tree.Kind.LAMBDA_EXPRESSION, Tree.Kind.MEMBER_REFERENCE,
        Tree.Kind.TRY, Tree.Kind.SYNCHRONIZED, Tree.Kind.ASSERT);
    private static final Set<Tree.Kind> LOOPS = Set.of(Tree.Kind.FOR_LOOP, Tree.Kind.ENHANCED_FOR_LOOP,
        Tree.Kind.WHILE_LOOP, Tree.Kind.DO_WHILE_LOOP);
    private static final int DEEPEST = 8;

    private final Trees trees;
    private final CompilationUnitTree unit;
    private final Map<Element, Set<Element>> calls = new HashMap<>();
    private int classes = 0;

    private LanguageTest(Trees trees, CompilationUnitTree unit) {
        this.trees = trees;
        this.unit = unit;
    }

    public static void main(String[] args) throws IOException {
        JavaCompiler compiler = ToolProvider.getSystemJavaCompiler();
        try (StandardJavaFileManager files = compiler.getStandardFileManager(null, null, null)) {
            JavacTask task = (JavacTask) compiler.getTask(null, files, null,
                List.of("--release", "17", "-proc:none"), null, files.getJavaFileObjects(SOURCE));
            CompilationUnitTree unit = task.parse().iterator().next();
            task.analyze();
            LanguageTest test = new LanguageTest(Trees.instance(task), unit);
            test.scan(unit, null);
            test.wholeFile();
        }
        Check.finish("LanguageTest");
    }

    private void wholeFile() throws IOException {
        Check.due("no package line", unit.getPackageName() == null, true);
        Check.due("classes in the file", unit.getTypeDecls().size(), 1);
        Check.due("rule 3: characters are 0 to 255", Files.readString(SOURCE).chars().allMatch(c -> c < 256), true);
        Check.due("rule 11: some twelve classes, not " + classes, classes <= 12, true);
        for (Element method : calls.keySet()) {
            int depth = depth(method, DEEPEST + 1);
            Check.due("rules 8 and 11: calls of " + method + " go eight deep at most", depth <= DEEPEST, true);
        }
    }

    /** How deep calls go from a method on, itself counted; recursion reaches any limit. */
    private int depth(Element method, int limit) {
        int deepest = 0;
        if (limit > 0) {
            for (Element called : calls.getOrDefault(method, Set.of())) {
                deepest = Math.max(deepest, depth(called, limit - 1));
            }
        }
        return deepest + 1;
    }

    @Override
    public Void scan(Tree tree, Void none) {
        if (tree != null) {
            allowed(tree, "rules 2 and 6: " + tree.getKind(), !REFUSED.contains(tree.getKind()));
        }
        return super.scan(tree, none);
    }

    @Override
    public Void visitImport(ImportTree tree, Void none) {
        allowed(tree, "rule 4: import", IMPORTS.contains(tree.getQualifiedIdentifier().toString()));
        return null;
    }

    @Override
    public Void visitClass(ClassTree tree, Void none) {
        classes++;
        Tree.Kind around = getCurrentPath().getParentPath().getLeaf().getKind();
        allowed(tree, "rule 2: a class in a method", around == Tree.Kind.CLASS || around == Tree.Kind.COMPILATION_UNIT);
        long fields = tree.getMembers().stream().filter(member -> member instanceof VariableTree field
            && !field.getModifiers().getFlags().contains(Modifier.STATIC)).count();
        allowed(tree, "rule 11: " + fields + " fields", fields <= 20);
        return super.visitClass(tree, none);
    }

    @Override
    public Void visitMethod(MethodTree tree, Void none) {
        allowed(tree, "rule 11: parameters", tree.getParameters().size() <= 7);
        allowed(tree, "rule 11: lines", lineOfEnd(tree) - line(tree) < 60);
        allowed(tree, "rule 6: a method of every object",
            !Set.of("equals", "hashCode", "toString").contains(tree.getName().toString()));
        calls.put(trees.getElement(getCurrentPath()), new HashSet<>());
        return super.visitMethod(tree, none);
    }

    @Override
    public Void visitVariable(VariableTree tree, Void none) {
        String type = trees.getTypeMirror(getCurrentPath()).toString();
        allowed(tree, "rule 3: type " + type, type.matches(TYPES));
        Set<Modifier> modifiers = tree.getModifiers().getFlags();
        boolean isStatic = modifiers.contains(Modifier.STATIC);
        allowed(tree, "rule 5: static", !isStatic || modifiers.contains(Modifier.FINAL) && !type.contains(OWN));
        return super.visitVariable(tree, none);
    }

    @Override
    public Void visitBlock(BlockTree tree, Void none) {
        allowed(tree, "rule 5: static block", !tree.isStatic());
        return super.visitBlock(tree, none);
    }

    @Override
    public Void visitMethodInvocation(MethodInvocationTree tree, Void none) {
        Element called = trees.getElement(getCurrentPath());
        String name = called.getEnclosingElement() + "." + called.getSimpleName();
        allowed(tree, "rule 4: call of " + name, isOwn(called) || LIBRARY.contains(name));
        edge(called);
        return super.visitMethodInvocation(tree, none);
    }

    @Override
    public Void visitNewClass(NewClassTree tree, Void none) {
        Element made = trees.getElement(getCurrentPath());
        boolean thrown = getCurrentPath().getParentPath().getLeaf() instanceof ThrowTree;
        allowed(tree, "rule 4: new", isOwn(made) || thrown);
        allowed(tree, "rule 12: new in a loop", thrown || !isInLoop());
        edge(made);
        return super.visitNewClass(tree, none);
    }

    @Override
    public Void visitNewArray(NewArrayTree tree, Void none) {
        allowed(tree, "rule 12: new in a loop", !isInLoop());
        return super.visitNewArray(tree, none);
    }

    @Override
    public Void visitThrow(ThrowTree tree, Void none) {
        boolean plain = tree.getExpression() instanceof NewClassTree made
            && EXCEPTIONS.contains(made.getIdentifier().toString()) && made.getClassBody() == null
            && (made.getArguments().isEmpty() || made.getArguments().size() == 1
                && made.getArguments().get(0).getKind() == Tree.Kind.STRING_LITERAL);
        allowed(tree, "rule 6: throw", plain);
        allowed(tree, "rule 6: throw in a constructor", !method().getName().contentEquals("<init>"));
        return super.visitThrow(tree, none);
    }

    @Override
    public Void visitBinary(BinaryTree tree, Void none) {
        allowed(tree, "rule 10: texts joined by +",
            !trees.getTypeMirror(getCurrentPath()).toString().equals("java.lang.String"));
        divides(tree, tree.getKind(), tree.getRightOperand());
        return super.visitBinary(tree, none);
    }

    @Override
    public Void visitCompoundAssignment(CompoundAssignmentTree tree, Void none) {
        divides(tree, tree.getKind(), tree.getExpression());
        return super.visitCompoundAssignment(tree, none);
    }

    /** A divisor that is a written number needs no look before it divides. */
    private void divides(Tree tree, Tree.Kind kind, ExpressionTree divisor) {
        if (kind.name().startsWith("DIVIDE") || kind.name().startsWith("REMAINDER")) {
            boolean safe = divisor instanceof LiteralTree number && !number.getValue().toString().equals("0");
            allowed(tree, "rule 7: divisor", safe);
        }
    }

    private void edge(Element called) {
        MethodTree around = method();
        if (around != null && isOwn(called)) {
            calls.get(trees.getElement(trees.getPath(unit, around))).add(called);
        }
    }

    private MethodTree method() {
        for (TreePath path = getCurrentPath(); path != null; path = path.getParentPath()) {
            if (path.getLeaf() instanceof MethodTree found) {
                return found;
            }
        }
        return null;
    }

    private boolean isInLoop() {
        for (TreePath path = getCurrentPath(); path != null; path = path.getParentPath()) {
            if (LOOPS.contains(path.getLeaf().getKind())) {
                return true;
            }
        }
        return false;
    }

    private static boolean isOwn(Element element) {
        return (element.getEnclosingElement() + ".").startsWith(OWN + ".");
    }

    private void allowed(Tree tree, String what, boolean is) {
        Check.due("line " + line(tree) + ", " + what, is, true);
    }

    private long line(Tree tree) {
        return unit.getLineMap().getLineNumber(trees.getSourcePositions().getStartPosition(unit, tree));
    }

    private long lineOfEnd(Tree tree) {
        long end = trees.getSourcePositions().getEndPosition(unit, tree);
        // What the compiler adds, as a constructor that is not written, has no end.
        return end < 0 ? line(tree) : unit.getLineMap().getLineNumber(end);
    }
}
