import com.sun.source.tree.BinaryTree;
import com.sun.source.tree.ClassTree;
import com.sun.source.tree.CompilationUnitTree;
import com.sun.source.tree.DoWhileLoopTree;
import com.sun.source.tree.ForLoopTree;
import com.sun.source.tree.MethodInvocationTree;
import com.sun.source.tree.MethodTree;
import com.sun.source.tree.NewClassTree;
import com.sun.source.tree.Tree;
import com.sun.source.tree.TypeCastTree;
import com.sun.source.tree.VariableTree;
import com.sun.source.tree.WhileLoopTree;
import com.sun.source.util.JavacTask;
import com.sun.source.util.TreePath;
import com.sun.source.util.TreePathScanner;
import com.sun.source.util.Trees;
import java.io.IOException;
import java.nio.file.Path;
import java.util.ArrayList;
import java.util.HashMap;
import java.util.LinkedHashMap;
import java.util.LinkedHashSet;
import java.util.List;
import java.util.Map;
import java.util.Set;
import javax.lang.model.element.Element;
import javax.lang.model.element.ExecutableElement;
import javax.lang.model.element.Modifier;
import javax.lang.model.element.TypeElement;
import javax.lang.model.type.DeclaredType;
import javax.lang.model.type.TypeMirror;
import javax.tools.JavaCompiler;
import javax.tools.StandardJavaFileManager;
import javax.tools.ToolProvider;

/** The rules of LANGUAGE.md about what calls what, read from the class as javac understands it. */
public final class CallsTest extends TreePathScanner<Void, Void> {
    private static final Set<String> LIBRARY = Set.of("Math.abs", "Math.max", "Math.min", "Math.floorMod", "Math.floorDiv",
        "Integer.compare", "Integer.bitCount", "String.length", "String.charAt", "System.arraycopy", "Arrays.fill",
        "Arrays.copyOf", "Object.<init>");
    private static final Set<Tree.Kind> BARRED = Set.of(Tree.Kind.THROW, Tree.Kind.TRY, Tree.Kind.SYNCHRONIZED,
        Tree.Kind.ASSERT, Tree.Kind.LAMBDA_EXPRESSION, Tree.Kind.MEMBER_REFERENCE, Tree.Kind.BINDING_PATTERN);
    private static final Set<String> TYPES = Set.of("int", "long", "short", "byte", "char", "boolean", "double", "float",
        "java.lang.String");
    private static final int DEEPEST = 8;
    private static final Due due = new Due();

    private final Trees trees;
    private final Map<ExecutableElement, Set<ExecutableElement>> calls = new LinkedHashMap<>();
    /** Those of the calls in whose stead an overrider may run. */
    private final Map<ExecutableElement, Set<ExecutableElement>> open = new HashMap<>();
    private final Map<String, List<ExecutableElement>> named = new HashMap<>();
    private ExecutableElement method = null;

    private CallsTest(Trees trees) {
        this.trees = trees;
    }

    public static void main(String[] args) throws IOException {
        JavaCompiler compiler = ToolProvider.getSystemJavaCompiler();
        try (StandardJavaFileManager files = compiler.getStandardFileManager(null, null, null)) {
            JavacTask task = (JavacTask) compiler.getTask(null, files, null, List.of("-proc:none"), null,
                files.getJavaFileObjects(Path.of("src/main/java/LowWater.java")));
            Iterable<? extends CompilationUnitTree> units = task.parse();
            task.analyze();
            CallsTest test = new CallsTest(Trees.instance(task));
            due.about("rules 2 to 10");
            test.scan(units, null);
            test.overriders();
            due.about("rule 8");
            test.recursion();
            due.about("rule 11");
            test.depth();
        }
        due.end();
    }

    private void fine(String what, boolean is) {
        due.is(what, is ? 1 : 0, 1);
    }

    private String here() {
        return " in " + (method == null ? "no method" : name(method));
    }

    private static String name(ExecutableElement m) {
        return ((TypeElement) m.getEnclosingElement()).getSimpleName() + "." + m.getSimpleName();
    }

    private static boolean isOwn(Element e) {
        return e != null && e.toString().startsWith("LowWater");
    }

    // ---- what stands in the text

    @Override
    public Void scan(Tree tree, Void none) {
        if (tree != null) {
            fine(tree.getKind() + here(), !BARRED.contains(tree.getKind()));
        }
        return super.scan(tree, none);
    }

    @Override
    public Void visitClass(ClassTree tree, Void none) {
        fine("class " + tree.getSimpleName() + " is of no method", method == null);
        return super.visitClass(tree, none);
    }

    @Override
    public Void visitMethod(MethodTree tree, Void none) {
        ExecutableElement before = method;
        method = (ExecutableElement) trees.getElement(getCurrentPath());
        calls.computeIfAbsent(method, m -> new LinkedHashSet<>());
        named.computeIfAbsent(method.getSimpleName() + "/" + method.getParameters().size(), n -> new ArrayList<>()).add(method);
        super.visitMethod(tree, none);
        method = before;
        return null;
    }

    @Override
    public Void visitVariable(VariableTree tree, Void none) {
        TypeMirror type = trees.getTypeMirror(getCurrentPath());
        String text = String.valueOf(type);
        String one = text.endsWith("[]") ? text.substring(0, text.length() - 2) : text;
        fine(tree.getName() + " of " + text + here(), TYPES.contains(one) || one.startsWith("LowWater"));
        Element e = trees.getElement(getCurrentPath());
        boolean isStatic = e.getModifiers().contains(Modifier.STATIC);
        fine(tree.getName() + " is final, if static", !isStatic || e.getModifiers().contains(Modifier.FINAL));
        return super.visitVariable(tree, none);
    }

    @Override
    public Void visitNewClass(NewClassTree tree, Void none) {
        fine("an anonymous class" + here(), tree.getClassBody() == null);
        Element made = trees.getElement(getCurrentPath());
        fine("new " + made + here(), isOwn(made.getEnclosingElement()));
        call((ExecutableElement) made, true);
        return super.visitNewClass(tree, none);
    }

    @Override
    public Void visitTypeCast(TypeCastTree tree, Void none) {
        fine("a cast to " + tree.getType() + here(), TYPES.contains(tree.getType().toString()));
        return super.visitTypeCast(tree, none);
    }

    @Override
    public Void visitBinary(BinaryTree tree, Void none) {
        boolean compares = tree.getKind() == Tree.Kind.EQUAL_TO || tree.getKind() == Tree.Kind.NOT_EQUAL_TO;
        boolean texts = String.valueOf(trees.getTypeMirror(getCurrentPath())).equals("java.lang.String");
        fine("+ of texts" + here(), !texts);
        if (compares) {
            TreePath left = new TreePath(getCurrentPath(), tree.getLeftOperand());
            fine(tree + " of texts" + here(), !String.valueOf(trees.getTypeMirror(left)).equals("java.lang.String"));
        }
        return super.visitBinary(tree, none);
    }

    // ---- loops

    private void ends(Tree condition) {
        fine("an end of a loop" + here(), condition != null && !condition.toString().replaceAll("[()]", "").equals("true"));
    }

    @Override
    public Void visitForLoop(ForLoopTree tree, Void none) {
        ends(tree.getCondition());
        return super.visitForLoop(tree, none);
    }

    @Override
    public Void visitWhileLoop(WhileLoopTree tree, Void none) {
        ends(tree.getCondition());
        return super.visitWhileLoop(tree, none);
    }

    @Override
    public Void visitDoWhileLoop(DoWhileLoopTree tree, Void none) {
        ends(tree.getCondition());
        return super.visitDoWhileLoop(tree, none);
    }

    // ---- calls

    @Override
    public Void visitMethodInvocation(MethodInvocationTree tree, Void none) {
        boolean ofSuper = tree.getMethodSelect().toString().startsWith("super");
        call((ExecutableElement) trees.getElement(getCurrentPath()), ofSuper);
        return super.visitMethodInvocation(tree, none);
    }

    /** What overrides it is added by overriders(), unless it is fixed which one is meant. */
    private void call(ExecutableElement called, boolean fixed) {
        if (!isOwn(called.getEnclosingElement())) {
            fine(name(called) + " of the library" + here(), LIBRARY.contains(name(called)));
            return;
        }
        if (method != null) {
            calls.get(method).add(called);
            if (!fixed) {
                open.computeIfAbsent(method, m -> new LinkedHashSet<>()).add(called);
            }
        }
    }

    private void overriders() {
        for (Map.Entry<ExecutableElement, Set<ExecutableElement>> one : open.entrySet()) {
            for (ExecutableElement called : one.getValue()) {
                boolean alone = called.getModifiers().contains(Modifier.PRIVATE) || called.getModifiers().contains(Modifier.STATIC);
                for (ExecutableElement other : named.get(called.getSimpleName() + "/" + called.getParameters().size())) {
                    if (!alone && isUnder(other, called)) {
                        calls.get(one.getKey()).add(other);
                    }
                }
            }
        }
    }

    private static boolean isUnder(ExecutableElement other, ExecutableElement called) {
        TypeElement type = (TypeElement) other.getEnclosingElement();
        String wanted = called.getEnclosingElement().toString();
        while (isOwn(type) && !type.toString().equals(wanted)) {
            type = (TypeElement) ((DeclaredType) type.getSuperclass()).asElement();
        }
        return isOwn(type);
    }

    private Set<ExecutableElement> reached(ExecutableElement from) {
        Set<ExecutableElement> all = new LinkedHashSet<>();
        List<ExecutableElement> left = new ArrayList<>(calls.getOrDefault(from, Set.of()));
        while (!left.isEmpty()) {
            ExecutableElement one = left.remove(left.size() - 1);
            if (all.add(one)) {
                left.addAll(calls.getOrDefault(one, Set.of()));
            }
        }
        return all;
    }

    /** Who calls itself is private and static; who call one another are private. */
    private void recursion() {
        int found = 0;
        for (ExecutableElement m : calls.keySet()) {
            if (reached(m).contains(m)) {
                found++;
                boolean itself = calls.get(m).contains(m);
                fine(name(m) + " is private", m.getModifiers().contains(Modifier.PRIVATE));
                fine(name(m) + " is static", !itself || m.getModifiers().contains(Modifier.STATIC));
            }
        }
        due.is("methods that are recursive", found, 4);
    }

    /** The longest row of calls in which no method stands twice. */
    private void depth() {
        for (ExecutableElement m : calls.keySet()) {
            List<ExecutableElement> row = new ArrayList<>();
            List<ExecutableElement> longest = new ArrayList<>();
            goOn(m, row, longest);
            due.is("depth of " + longest, Math.max(DEEPEST, longest.size()), DEEPEST);
        }
    }

    private void goOn(ExecutableElement m, List<ExecutableElement> row, List<ExecutableElement> longest) {
        row.add(m);
        if (row.size() > longest.size()) {
            longest.clear();
            longest.addAll(row);
        }
        for (ExecutableElement next : calls.getOrDefault(m, Set.of())) {
            if (!row.contains(next)) {
                goOn(next, row, longest);
            }
        }
        row.remove(row.size() - 1);
    }
}
