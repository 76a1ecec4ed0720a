import com.sun.source.tree.AssertTree;
import com.sun.source.tree.BinaryTree;
import com.sun.source.tree.BlockTree;
import com.sun.source.tree.ClassTree;
import com.sun.source.tree.CompilationUnitTree;
import com.sun.source.tree.ImportTree;
import com.sun.source.tree.LambdaExpressionTree;
import com.sun.source.tree.LiteralTree;
import com.sun.source.tree.MemberReferenceTree;
import com.sun.source.tree.MethodInvocationTree;
import com.sun.source.tree.MethodTree;
import com.sun.source.tree.NewArrayTree;
import com.sun.source.tree.NewClassTree;
import com.sun.source.tree.SynchronizedTree;
import com.sun.source.tree.ThrowTree;
import com.sun.source.tree.Tree;
import com.sun.source.tree.TryTree;
import com.sun.source.tree.TypeCastTree;
import com.sun.source.tree.VariableTree;
import com.sun.source.tree.WhileLoopTree;
import com.sun.source.util.JavacTask;
import com.sun.source.util.TreePath;
import com.sun.source.util.TreePathScanner;
import com.sun.source.util.Trees;
import java.nio.file.Path;
import java.util.ArrayList;
import java.util.HashMap;
import java.util.HashSet;
import java.util.List;
import java.util.Map;
import java.util.Set;
import java.util.TreeMap;
import java.util.TreeSet;
import javax.lang.model.element.Element;
import javax.lang.model.element.ElementKind;
import javax.lang.model.element.ExecutableElement;
import javax.lang.model.element.Modifier;
import javax.tools.JavaCompiler;
import javax.tools.StandardJavaFileManager;
import javax.tools.ToolProvider;

/** The class keeps to those rules of LANGUAGE.md that its text alone can show, each by the rule's number. */
public final class LanguageTest {
    private static final Path SOURCE = Path.of("src/main/java/RingSearch.java");
    private static final int PARAMETERS = 7, LINES = 60, DEPTH = 8, CLASSES = 12, FIELDS = 20;
    private static final Set<String> THROWN = Set.of("IllegalStateException", "IllegalArgumentException", "IndexOutOfBoundsException",
        "ArithmeticException", "UnsupportedOperationException", "NoSuchElementException", "RuntimeException");
    /** Of rule 4, what the class makes use of. */
    private static final Set<String> LIBRARY = Set.of("java.lang.Integer.bitCount", "java.lang.Long.bitCount", "java.lang.Math.min",
        "java.lang.Math.max", "java.lang.System.arraycopy", "java.util.Arrays.fill", "java.lang.Object.<init>");
    /** Methods that call themselves, or one another: each has a guard on its depth. */
    private static final Set<String> RECURSIVE = Set.of("countWays", "extend", "findLeading", "writeFrom", "writeBranch");

    private final Checks c = new Checks();
    private final CompilationUnitTree unit;
    private final Trees trees;
    private final List<TreePath> nodes = new ArrayList<>();
    private final Map<String, Set<String>> calls = new TreeMap<>();

    public static void main(String[] args) throws Exception {
        LanguageTest t = new LanguageTest();
        t.c.runAll(t, "rule");
        System.exit(t.c.end("LanguageTest"));
    }

    private LanguageTest() throws Exception {
        JavaCompiler compiler = ToolProvider.getSystemJavaCompiler();
        StandardJavaFileManager files = compiler.getStandardFileManager(null, null, null);
        JavacTask task = (JavacTask) compiler.getTask(null, files, null, List.of("--release", "17", "-proc:none"), null, files.getJavaFileObjects(SOURCE));
        unit = task.parse().iterator().next();
        task.analyze();
        trees = Trees.instance(task);
        new TreePathScanner<Void, Void>() {
            @Override public Void scan(Tree tree, Void p) {
                if (tree != null && getCurrentPath() != null) nodes.add(new TreePath(getCurrentPath(), tree));
                return super.scan(tree, p);
            }
        }.scan(new TreePath(unit), null);
    }

    private <T extends Tree> List<TreePath> all(Class<T> kind) {
        List<TreePath> found = new ArrayList<>();
        for (TreePath n : nodes) if (kind.isInstance(n.getLeaf())) found.add(n);
        return found;
    }

    private void none(Class<? extends Tree> kind) { c.same(kind.getSimpleName(), all(kind).size(), 0); }

    private static <T extends Tree> T around(TreePath path, Class<T> kind) {
        for (TreePath p = path.getParentPath(); p != null; p = p.getParentPath()) if (kind.isInstance(p.getLeaf())) return kind.cast(p.getLeaf());
        return null;
    }

    private String className(TreePath path) {
        ClassTree inside = around(path, ClassTree.class);
        return inside == null ? "" : inside.getSimpleName().toString();
    }

    private long line(long at) { return unit.getLineMap().getLineNumber(at); }

    private int linesOf(Tree tree) {
        return (int) (line(trees.getSourcePositions().getEndPosition(unit, tree)) - line(trees.getSourcePositions().getStartPosition(unit, tree)) + 1);
    }

    private static boolean isOwn(Element e) {
        for (Element at = e; at != null; at = at.getEnclosingElement()) if (at.getKind() == ElementKind.CLASS && at.getSimpleName().contentEquals("RingSearch")) return true;
        return false;
    }

    private void rule02_static_classes_no_lambda_no_reference() {
        none(LambdaExpressionTree.class);
        none(MemberReferenceTree.class);
        for (TreePath p : all(ClassTree.class)) {
            ClassTree k = (ClassTree) p.getLeaf();
            boolean outer = p.getParentPath().getLeaf() == unit;
            c.same(k.getSimpleName() + " is static", outer || k.getModifiers().getFlags().contains(Modifier.STATIC), true);
            c.same(k.getSimpleName() + " stands in the class", outer || p.getParentPath().getLeaf() instanceof ClassTree, true);
        }
    }

    private void rule03_types() {
        Set<String> own = new HashSet<>();
        for (TreePath p : all(ClassTree.class)) own.add(((ClassTree) p.getLeaf()).getSimpleName().toString());
        Set<String> plain = Set.of("int", "long", "boolean", "char", "int[]", "long[]", "char[]");
        for (TreePath p : all(VariableTree.class)) {
            String type = ((VariableTree) p.getLeaf()).getType().toString();
            c.same("type " + type, plain.contains(type) || own.contains(type), true);
        }
    }

    private void rule04_the_library() {
        for (TreePath p : all(MethodInvocationTree.class)) {
            Element e = trees.getElement(new TreePath(p, ((MethodInvocationTree) p.getLeaf()).getMethodSelect()));
            String name = e.getEnclosingElement() + "." + e.getSimpleName();
            c.same(name, isOwn(e) || LIBRARY.contains(name), true);
        }
        for (TreePath p : all(ImportTree.class)) c.same("import", p.getLeaf().toString().trim(), "import java.util.Arrays;");
    }

    private void rule05_static_fields_are_final_constants() {
        for (TreePath p : all(VariableTree.class)) {
            VariableTree v = (VariableTree) p.getLeaf();
            if (!v.getModifiers().getFlags().contains(Modifier.STATIC)) continue;
            String type = v.getType().toString();
            boolean writtenOut = v.getInitializer() instanceof NewArrayTree && ((NewArrayTree) v.getInitializer()).getInitializers() != null;
            c.same(v.getName() + " is final", v.getModifiers().getFlags().contains(Modifier.FINAL), true);
            c.same(v.getName() + " is a constant", Set.of("int", "long").contains(type) || type.equals("char[]") && writtenOut, true);
        }
        for (TreePath p : all(BlockTree.class)) c.same("a static block", ((BlockTree) p.getLeaf()).isStatic(), false);
    }

    private void rule06_exceptions() {
        none(TryTree.class);
        none(SynchronizedTree.class);
        none(AssertTree.class);
        for (TreePath p : all(ThrowTree.class)) {
            Tree what = ((ThrowTree) p.getLeaf()).getExpression();
            c.same("throw new", what instanceof NewClassTree, true);
            NewClassTree made = (NewClassTree) what;
            c.same("thrown: " + made, THROWN.contains(made.getIdentifier().toString()), true);
            c.same("a written text: " + made, made.getArguments().size() == 1 && made.getArguments().get(0) instanceof LiteralTree, true);
            c.same("in no constructor: " + made, around(p, MethodTree.class).getName().contentEquals("<init>"), false);
        }
        for (TreePath p : all(TypeCastTree.class)) c.same("casts are of numbers", Set.of("int", "long").contains(((TypeCastTree) p.getLeaf()).getType().toString()), true);
    }

    private void rule08_recursion_is_known_and_guarded() {
        Set<String> found = new TreeSet<>();
        for (String m : callGraph().keySet()) if (reaches(m, m, new HashSet<>())) found.add(m.replaceAll(".*\\.", ""));
        c.same("recursive", found, new TreeSet<>(RECURSIVE));
    }

    private void rule09_loops_have_bounds() {
        for (TreePath p : all(WhileLoopTree.class)) c.same("while: " + p.getLeaf(), ((WhileLoopTree) p.getLeaf()).getCondition().toString().contains("<= FIGURES"), true);
    }

    private void rule10_no_texts_joined() {
        for (TreePath p : all(BinaryTree.class))
            if (p.getLeaf().getKind() == Tree.Kind.PLUS) c.same("a sum of numbers: " + p.getLeaf(), trees.getTypeMirror(p).getKind().isPrimitive(), true);
    }

    private void rule11_methods_are_short() {
        for (TreePath p : all(MethodTree.class)) {
            MethodTree m = (MethodTree) p.getLeaf();
            c.same(m.getName() + " has few parameters", m.getParameters().size() <= PARAMETERS, true);
            c.same(m.getName() + " has few lines", linesOf(m) <= LINES, true);
        }
    }

    private void rule11_calls_go_eight_deep_at_most() {
        Map<String, Integer> depths = new HashMap<>();
        for (String m : callGraph().keySet()) c.same(m + " goes " + depth(m, depths, new HashSet<>()) + " deep", depths.get(m) <= DEPTH, true);
    }

    private void rule11_few_classes_and_fields() {
        c.same("classes", all(ClassTree.class).size() <= CLASSES, true);
        for (TreePath p : all(ClassTree.class)) {
            ClassTree k = (ClassTree) p.getLeaf();
            int fields = 0;
            for (Tree t : k.getMembers()) if (t instanceof VariableTree && !((VariableTree) t).getModifiers().getFlags().contains(Modifier.STATIC)) fields++;
            c.same(k.getSimpleName() + " has few fields", fields <= FIELDS, true);
        }
    }

    /** Rows are made with the object; no call makes anything but what it throws. */
    private void rule12_no_call_makes_an_object() {
        for (Class<? extends Tree> kind : List.of(NewClassTree.class, NewArrayTree.class))
            for (TreePath p : all(kind)) {
                MethodTree in = around(p, MethodTree.class);
                boolean thrown = p.getParentPath().getLeaf() instanceof ThrowTree;
                c.same("made in " + className(p) + ": " + p.getLeaf(), thrown || in == null || in.getName().contentEquals("<init>"), true);
            }
    }

    private void rule13_nothing_from_outside() {
        Set<String> packages = new TreeSet<>();
        for (TreePath p : all(ImportTree.class)) packages.add(((ImportTree) p.getLeaf()).getQualifiedIdentifier().toString());
        c.same("imports", packages, Set.of("java.util.Arrays"));
    }

    // ---- which method calls which

    private Map<String, Set<String>> callGraph() {
        if (!calls.isEmpty()) return calls;
        for (TreePath p : all(MethodTree.class)) calls.put(nameOf(trees.getElement(p)), new TreeSet<>());
        for (Class<? extends Tree> kind : List.of(MethodInvocationTree.class, NewClassTree.class))
            for (TreePath p : all(kind)) {
                MethodTree in = around(p, MethodTree.class);
                Element called = trees.getElement(p);
                if (in == null || !isOwn(called)) continue;
                calls.get(nameOf(trees.getElement(trees.getPath(unit, in)))).add(nameOf(called));
            }
        return calls;
    }

    private static String nameOf(Element e) { return e.getEnclosingElement().getSimpleName() + "." + ((ExecutableElement) e).getSimpleName(); }

    private boolean reaches(String from, String to, Set<String> met) {
        for (String next : calls.getOrDefault(from, Set.of())) {
            if (next.equals(to)) return true;
            if (met.add(next) && reaches(next, to, met)) return true;
        }
        return false;
    }

    /** How many methods stand open at most, one that is open already not gone into again. */
    private int depth(String m, Map<String, Integer> depths, Set<String> open) {
        int deepest = 0;
        open.add(m);
        for (String next : calls.getOrDefault(m, Set.of())) if (!open.contains(next)) deepest = Math.max(deepest, depth(next, depths, open));
        open.remove(m);
        depths.merge(m, deepest + 1, Math::max);
        return deepest + 1;
    }
}
