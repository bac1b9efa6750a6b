import com.sun.source.tree.BinaryTree;
import com.sun.source.tree.ClassTree;
import com.sun.source.tree.CompilationUnitTree;
import com.sun.source.tree.MethodInvocationTree;
import com.sun.source.tree.MethodTree;
import com.sun.source.tree.Tree;
import com.sun.source.tree.VariableTree;
import com.sun.source.util.JavacTask;
import com.sun.source.util.TreePath;
import com.sun.source.util.TreePathScanner;
import com.sun.source.util.Trees;
import java.io.File;
import java.util.HashMap;
import java.util.List;
import java.util.Map;
import java.util.Set;
import java.util.TreeSet;
import javax.lang.model.element.Element;
import javax.lang.model.element.ElementKind;
import javax.lang.model.element.Modifier;
import javax.lang.model.element.TypeElement;
import javax.tools.JavaCompiler;
import javax.tools.StandardJavaFileManager;
import javax.tools.ToolProvider;

/** Holds the class's source against the rules of ../shared/LANGUAGE.md that can be counted. */
public final class RulesTest {
    private static final Set<String> LIBRARY = Set.of("java.lang.Integer.bitCount", "java.lang.Math.max",
            "java.lang.Math.min", "java.lang.System.arraycopy");
    private static final Set<Tree.Kind> NEVER = Set.of(Tree.Kind.LAMBDA_EXPRESSION, Tree.Kind.MEMBER_REFERENCE,
            Tree.Kind.TRY, Tree.Kind.THROW, Tree.Kind.SYNCHRONIZED, Tree.Kind.ASSERT, Tree.Kind.STRING_LITERAL,
            Tree.Kind.INSTANCE_OF, Tree.Kind.IMPORT, Tree.Kind.PACKAGE);

    private static int wrong = 0;

    private static void rule(int number, String what, boolean kept) {
        if (!kept) {
            wrong++;
            System.out.println("rule " + number + ": " + what);
        }
    }

    private static final class Scan extends TreePathScanner<Void, Void> {
        final CompilationUnitTree unit;
        final Trees trees;
        final Map<Element, Set<Element>> calls = new HashMap<>();
        final Set<String> face = new TreeSet<>();
        final Map<Element, String> others = new HashMap<>();
        int classes = 0;
        Element inside = null;

        Scan(CompilationUnitTree unit, Trees trees) {
            this.unit = unit;
            this.trees = trees;
        }

        @Override
        public Void scan(Tree tree, Void none) {
            if (tree != null) rule(6, "no " + tree.getKind() + " is wanted: " + tree, !NEVER.contains(tree.getKind()));
            return super.scan(tree, none);
        }

        @Override
        public Void visitClass(ClassTree tree, Void none) {
            classes++;
            int fields = 0;
            for (Tree member : tree.getMembers()) {
                rule(5, "a block outside methods", member.getKind() != Tree.Kind.BLOCK);
                if (!(member instanceof VariableTree)) continue;
                Set<Modifier> modifiers = ((VariableTree) member).getModifiers().getFlags();
                if (!modifiers.contains(Modifier.STATIC)) fields++;
                else rule(5, "static and not final: " + member, modifiers.contains(Modifier.FINAL));
            }
            rule(11, "over twenty fields in " + tree.getSimpleName(), fields <= 20);
            return super.visitClass(tree, none);
        }

        private long line(long position) {
            return unit.getLineMap().getLineNumber(position);
        }

        @Override
        public Void visitMethod(MethodTree tree, Void none) {
            Element outer = inside;
            inside = trees.getElement(getCurrentPath());
            calls.put(inside, new java.util.LinkedHashSet<>());
            String name = inside.getEnclosingElement() + "." + tree.getName();
            if (tree.getModifiers().getFlags().contains(Modifier.PUBLIC)) face.add(tree.getName().toString());
            else if (inside.getKind() == ElementKind.METHOD) others.put(inside, tree.getName().toString());
            long start = trees.getSourcePositions().getStartPosition(unit, tree);
            long end = trees.getSourcePositions().getEndPosition(unit, tree);
            if (end >= 0) rule(11, name + " is over sixty lines", line(end) - line(start) < 60);
            rule(11, name + " takes over seven", tree.getParameters().size() <= 7);
            super.visitMethod(tree, none);
            inside = outer;
            return null;
        }

        @Override
        public Void visitMethodInvocation(MethodInvocationTree tree, Void none) {
            Element called = trees.getElement(new TreePath(getCurrentPath(), tree.getMethodSelect()));
            if (called != null && called.getKind() == ElementKind.METHOD) {
                String owner = ((TypeElement) called.getEnclosingElement()).getQualifiedName().toString();
                boolean own = owner.startsWith("CubeBodies");
                rule(4, "the library's " + owner + "." + called, own || LIBRARY.contains(owner + "." + called.getSimpleName()));
                if (inside != null) calls.get(inside).add(called);
            }
            return super.visitMethodInvocation(tree, none);
        }

        @Override
        public Void visitBinary(BinaryTree tree, Void none) {
            String type = String.valueOf(trees.getTypeMirror(getCurrentPath()));
            rule(10, "texts joined: " + tree, !type.equals("java.lang.String"));
            return super.visitBinary(tree, none);
        }

        int depth(Element method, int above) {
            if (above > 50) return above;
            int deepest = above + 1;
            for (Element called : calls.getOrDefault(method, Set.of())) {
                deepest = Math.max(deepest, depth(called, above + 1));
            }
            return deepest;
        }
    }

    public static void main(String[] args) throws Exception {
        File source = new File("src/main/java/CubeBodies.java");
        JavaCompiler compiler = ToolProvider.getSystemJavaCompiler();
        StandardJavaFileManager files = compiler.getStandardFileManager(null, null, null);
        JavacTask task = (JavacTask) compiler.getTask(null, files, null, List.of("-proc:none"), null,
                files.getJavaFileObjects(source));
        CompilationUnitTree unit = task.parse().iterator().next();
        task.analyze();
        Scan scan = new Scan(unit, Trees.instance(task));
        scan.scan(unit, null);

        rule(1, "one class stands in the file", unit.getTypeDecls().size() == 1);
        rule(11, "over twelve classes", scan.classes <= 12);
        for (Element method : scan.others.keySet()) {
            rule(1, "a private method bears a public name: " + method, !scan.face.contains(scan.others.get(method)));
        }
        int deepest = 0;
        for (Element method : scan.calls.keySet()) {
            int depth = scan.depth(method, 0);
            deepest = Math.max(deepest, depth);
            rule(11, "calls go " + depth + " deep from " + method, depth <= 8);
        }
        System.out.println(scan.classes + " classes, " + scan.calls.size() + " methods, calls at most " + deepest
                + " deep: " + (wrong == 0 ? "the rules are kept" : wrong + " breaches"));
        if (wrong != 0) System.exit(1);
    }
}
