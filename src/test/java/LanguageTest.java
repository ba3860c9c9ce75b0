import com.sun.source.tree.BlockTree;
import com.sun.source.tree.ClassTree;
import com.sun.source.tree.CompilationUnitTree;
import com.sun.source.tree.ImportTree;
import com.sun.source.tree.LineMap;
import com.sun.source.tree.MethodInvocationTree;
import com.sun.source.tree.MethodTree;
import com.sun.source.tree.NewClassTree;
import com.sun.source.tree.Tree;
import com.sun.source.tree.VariableTree;
import com.sun.source.util.JavacTask;
import com.sun.source.util.TreePath;
import com.sun.source.util.TreePathScanner;
import com.sun.source.util.Trees;
import java.io.File;
import java.io.IOException;
import java.util.EnumSet;
import java.util.HashMap;
import java.util.HashSet;
import java.util.List;
import java.util.Map;
import java.util.Set;
import javax.lang.model.element.Element;
import javax.lang.model.element.ElementKind;
import javax.lang.model.element.Modifier;
import javax.tools.JavaCompiler;
import javax.tools.StandardJavaFileManager;
import javax.tools.ToolProvider;

/**
 * Those rules of ../shared/LANGUAGE.md that can be read off the program's tree; what a run makes is
 * counted by RoomTest, and the face (rule 1) is looked at by FaceTest.
 */
public final class LanguageTest extends TreePathScanner<Void, Void> {
    private static final String PROGRAM = "src/main/java/PoliteGatherer.java";
    private static final int MOST_CLASSES = 12;
    private static final int MOST_FIELDS = 20;
    private static final int MOST_LINES = 60;
    private static final int MOST_PARAMETERS = 7;
    private static final int MOST_DEPTH = 8;

    /** What the program uses of the library that rule 4 lists; whoever uses more looks it up there first. */
    private static final Set<String> LIBRARY = Set.of("Math.max(int,int)", "Math.min(int,int)");

    private static final Set<Tree.Kind> RULED_OUT = EnumSet.of(
        Tree.Kind.LAMBDA_EXPRESSION, Tree.Kind.MEMBER_REFERENCE, Tree.Kind.THROW, Tree.Kind.TRY,
        Tree.Kind.CATCH, Tree.Kind.SYNCHRONIZED, Tree.Kind.ASSERT);

    private final Checks checks;
    private final Trees trees;
    private final LineMap lines;
    private final CompilationUnitTree unit;
    private final Map<Element, Set<Element>> calls = new HashMap<>();
    private int classes = 0;

    private LanguageTest(Checks checks, Trees trees, CompilationUnitTree unit) {
        this.checks = checks;
        this.trees = trees;
        this.unit = unit;
        lines = unit.getLineMap();
    }

    public static void main(String[] args) throws IOException {
        Checks checks = new Checks();
        JavaCompiler compiler = ToolProvider.getSystemJavaCompiler();
        try (StandardJavaFileManager files = compiler.getStandardFileManager(null, null, null)) {
            JavacTask task = (JavacTask) compiler.getTask(null, files, null, List.of("--release", "17"),
                null, files.getJavaFileObjects(new File(PROGRAM)));
            CompilationUnitTree unit = task.parse().iterator().next();
            task.analyze();
            new LanguageTest(checks, Trees.instance(task), unit).check();
        }
        checks.end();
    }

    private void check() {
        checks.due("the file has no package line", unit.getPackage() == null, true);
        for (ImportTree line : unit.getImports()) {
            checks.due("4: " + line.toString().strip(), "an import", "none, for the program needs none");
        }
        scan(unit, null);
        checks.due("11: " + classes + " classes", classes <= MOST_CLASSES, true);
        for (Element method : calls.keySet()) {
            depthFrom(method, new HashSet<>());
        }
    }

    @Override
    public Void scan(Tree tree, Void none) {
        if (tree != null && RULED_OUT.contains(tree.getKind())) {
            complain(tree, "2 and 6: " + tree.getKind());
        }
        return super.scan(tree, none);
    }

    private void complain(Tree tree, String what) {
        long start = trees.getSourcePositions().getStartPosition(unit, tree);
        checks.due("line " + lines.getLineNumber(start) + ": " + what, "there", "not there");
    }

    @Override
    public Void visitClass(ClassTree tree, Void none) {
        classes++;
        Tree around = getCurrentPath().getParentPath().getLeaf();
        boolean isFace = around.getKind() == Tree.Kind.COMPILATION_UNIT;
        Element element = trees.getElement(getCurrentPath());
        if (!isFace && (!(around instanceof ClassTree) || !element.getModifiers().contains(Modifier.STATIC))) {
            complain(tree, "2: a class inside that is not static, local or without a name");
        }
        int fields = 0;
        for (Tree member : tree.getMembers()) {
            if (member instanceof BlockTree block && block.isStatic()) {
                complain(block, "5: a static initialiser block");
            }
            if (member instanceof VariableTree field) {
                Set<Modifier> flags = field.getModifiers().getFlags();
                if (!flags.contains(Modifier.STATIC)) {
                    fields++;
                } else if (!flags.contains(Modifier.FINAL)) {
                    complain(field, "5: a static field that is not final");
                }
            }
        }
        checks.due("11: " + element + " has " + fields + " fields", fields <= MOST_FIELDS, true);
        return super.visitClass(tree, none);
    }

    @Override
    public Void visitMethod(MethodTree tree, Void none) {
        Element method = trees.getElement(getCurrentPath());
        calls.putIfAbsent(method, new HashSet<>());
        long start = trees.getSourcePositions().getStartPosition(unit, tree);
        long end = trees.getSourcePositions().getEndPosition(unit, tree);
        // A constructor that the compiler adds stands nowhere in the file.
        if (start >= 0 && end >= 0) {
            long length = lines.getLineNumber(end) - lines.getLineNumber(start) + 1;
            checks.due("11: " + method + " has " + length + " lines", length <= MOST_LINES, true);
        }
        int parameters = tree.getParameters().size();
        checks.due("11: " + method + " takes " + parameters, parameters <= MOST_PARAMETERS, true);
        return super.visitMethod(tree, none);
    }

    @Override
    public Void visitMethodInvocation(MethodInvocationTree tree, Void none) {
        noteCall(trees.getElement(getCurrentPath()), tree);
        return super.visitMethodInvocation(tree, none);
    }

    @Override
    public Void visitNewClass(NewClassTree tree, Void none) {
        noteCall(trees.getElement(getCurrentPath()), tree);
        return super.visitNewClass(tree, none);
    }

    private void noteCall(Element called, Tree tree) {
        if (trees.getPath(called) == null) {
            // What every constructor calls first, and what the compiler writes into an enum.
            boolean isWrittenByCompiler = called.getKind() == ElementKind.CONSTRUCTOR
                && tree.toString().equals("super()");
            String name = called.getEnclosingElement().getSimpleName() + "." + called;
            if (!isWrittenByCompiler && !LIBRARY.contains(name)) {
                complain(tree, "4: " + name);
            }
            return;
        }
        Element caller = callerOf(getCurrentPath());
        if (caller != null) {
            calls.computeIfAbsent(caller, key -> new HashSet<>()).add(called);
        }
    }

    private Element callerOf(TreePath place) {
        for (TreePath path = place; path != null; path = path.getParentPath()) {
            if (path.getLeaf() instanceof MethodTree) {
                return trees.getElement(path);
            }
        }
        return null;
    }

    /** How many calls stand open at most when this method is called, its own among them. */
    private int depthFrom(Element method, Set<Element> open) {
        if (!open.add(method)) {
            checks.due("8: " + method + " calls itself, which the program does nowhere", true, false);
            return 0;
        }
        int deepest = 0;
        for (Element called : calls.getOrDefault(method, Set.of())) {
            deepest = Math.max(deepest, depthFrom(called, open));
        }
        open.remove(method);
        checks.due("11: " + method + " goes " + (deepest + 1) + " deep", deepest + 1 <= MOST_DEPTH, true);
        return deepest + 1;
    }
}
