import com.sun.source.tree.AssertTree;
import com.sun.source.tree.BinaryTree;
import com.sun.source.tree.ClassTree;
import com.sun.source.tree.CompilationUnitTree;
import com.sun.source.tree.DoWhileLoopTree;
import com.sun.source.tree.EnhancedForLoopTree;
import com.sun.source.tree.ForLoopTree;
import com.sun.source.tree.InstanceOfTree;
import com.sun.source.tree.LambdaExpressionTree;
import com.sun.source.tree.MemberReferenceTree;
import com.sun.source.tree.MethodInvocationTree;
import com.sun.source.tree.MethodTree;
import com.sun.source.tree.NewArrayTree;
import com.sun.source.tree.NewClassTree;
import com.sun.source.tree.SynchronizedTree;
import com.sun.source.tree.ThrowTree;
import com.sun.source.tree.Tree;
import com.sun.source.tree.TryTree;
import com.sun.source.tree.TypeCastTree;
import com.sun.source.tree.VariableTree;
import com.sun.source.tree.WhileLoopTree;
import com.sun.source.util.JavacTask;
import com.sun.source.util.TreePath;
import com.sun.source.util.TreePathScanner;
import com.sun.source.util.Trees;
import java.io.IOException;
import java.lang.reflect.Modifier;
import java.nio.file.Path;
import java.util.HashMap;
import java.util.HashSet;
import java.util.List;
import java.util.Map;
import java.util.Set;
import javax.lang.model.element.Element;
import javax.lang.model.element.ElementKind;
import javax.tools.JavaCompiler;
import javax.tools.StandardJavaFileManager;
import javax.tools.ToolProvider;

/** The class keeps to LANGUAGE.md, narrower where it can: each finding is told with the number of its rule. */
final class LanguageTest {
    private static final Path SOURCE = Path.of("src/main/java/NestedPager.java");
    private static final int MOST_LINES = 60, MOST_PARAMETERS = 7, MOST_DEPTH = 8, MOST_CLASSES = 12, MOST_FIELDS = 20;
    private static final Set<String> STATIC_TYPES = Set.of("int", "long", "boolean", "char", "String", "int[]");
    private static final Set<String> LIBRARY = Set.of("java.lang.Math.min");
    private static final Set<String> THROWN = Set.of("IllegalArgumentException", "IllegalStateException");

    private LanguageTest() {
    }

    public static void main(String[] args) throws IOException {
        JavaCompiler compiler = ToolProvider.getSystemJavaCompiler();
        try (StandardJavaFileManager files = compiler.getStandardFileManager(null, null, null)) {
            JavacTask task = (JavacTask) compiler.getTask(null, files, null, List.of("-proc:none"), null,
                files.getJavaFileObjects(SOURCE));
            CompilationUnitTree unit = task.parse().iterator().next();
            task.analyze();
            Reader reader = new Reader(Trees.instance(task), unit);
            reader.scan(unit, null);
            reader.wholeFile();
        }
        Check.end();
    }

    private static final class Reader extends TreePathScanner<Void, Void> {
        private final Trees trees;
        private final CompilationUnitTree unit;
        private final Set<String> face = new HashSet<>();
        private final Map<Element, Set<Element>> calls = new HashMap<>();
        private int classes = 0;
        private Element method = null;
        private boolean inConstructor = false;

        Reader(Trees trees, CompilationUnitTree unit) {
            this.trees = trees;
            this.unit = unit;
            for (java.lang.reflect.Method m : NestedPager.class.getDeclaredMethods()) {
                if (Modifier.isPublic(m.getModifiers())) {
                    face.add(m.getName());
                }
            }
        }

        private void rule(int number, String what, Tree where, boolean kept) {
            long line = unit.getLineMap().getLineNumber(start(where));
            Check.holds("rule " + number + ", line " + line + ": " + what, kept);
        }

        private void never(int number, String what, Tree where) {
            rule(number, what, where, false);
        }

        private long start(Tree tree) {
            return trees.getSourcePositions().getStartPosition(unit, tree);
        }

        private int lines(Tree tree) {
            long end = trees.getSourcePositions().getEndPosition(unit, tree);
            return (int) (unit.getLineMap().getLineNumber(end) - unit.getLineMap().getLineNumber(start(tree))) + 1;
        }

        void wholeFile() {
            rule(1, "no package", unit, unit.getPackageName() == null);
            rule(4, "no import", unit, unit.getImports().isEmpty());
            rule(1, "one class at the top", unit, unit.getTypeDecls().size() == 1);
            Check.holds("rule 11: " + classes + " classes", classes <= MOST_CLASSES);
            for (Element from : calls.keySet()) {
                int depth = depth(from, new HashSet<>());
                Check.holds("rule 11: calls from " + from + " go " + depth + " deep", depth <= MOST_DEPTH);
            }
        }

        /** The longest chain of calls from a method on; one that comes back to itself is told as recursion. */
        private int depth(Element from, Set<Element> open) {
            if (!open.add(from)) {
                Check.holds("rule 8: " + from + " calls itself", false);
                return 0;
            }
            int deepest = 0;
            for (Element to : calls.getOrDefault(from, Set.of())) {
                deepest = Math.max(deepest, depth(to, open));
            }
            open.remove(from);
            return deepest + 1;
        }

        @Override
        public Void visitClass(ClassTree tree, Void none) {
            classes++;
            boolean inside = getCurrentPath().getParentPath().getLeaf() instanceof ClassTree;
            if (inside) {
                Set<javax.lang.model.element.Modifier> flags = tree.getModifiers().getFlags();
                rule(1, "a class inside is private and static", tree,
                    flags.contains(javax.lang.model.element.Modifier.PRIVATE)
                        && flags.contains(javax.lang.model.element.Modifier.STATIC));
            }
            rule(2, "no local or anonymous class", tree,
                inside || getCurrentPath().getParentPath().getLeaf() instanceof CompilationUnitTree);
            int fields = 0;
            for (Tree member : tree.getMembers()) {
                fields += member instanceof VariableTree v && !isStatic(v) ? 1 : 0;
                rule(5, "no initialiser block", member, member.getKind() != Tree.Kind.BLOCK);
            }
            rule(11, fields + " fields", tree, fields <= MOST_FIELDS);
            return super.visitClass(tree, none);
        }

        private static boolean isStatic(VariableTree tree) {
            return tree.getModifiers().getFlags().contains(javax.lang.model.element.Modifier.STATIC);
        }

        @Override
        public Void visitVariable(VariableTree tree, Void none) {
            if (isStatic(tree)) {
                rule(5, "a static field is final", tree,
                    tree.getModifiers().getFlags().contains(javax.lang.model.element.Modifier.FINAL));
                rule(5, "a static field's type", tree, STATIC_TYPES.contains(tree.getType().toString()));
            }
            return super.visitVariable(tree, none);
        }

        @Override
        public Void visitMethod(MethodTree tree, Void none) {
            method = trees.getElement(getCurrentPath());
            inConstructor = method.getKind() == ElementKind.CONSTRUCTOR;
            calls.putIfAbsent(method, new HashSet<>());
            rule(11, tree.getName() + " has " + lines(tree) + " lines", tree, lines(tree) <= MOST_LINES);
            rule(11, tree.getName() + "'s parameters", tree, tree.getParameters().size() <= MOST_PARAMETERS);
            boolean isPublic = tree.getModifiers().getFlags().contains(javax.lang.model.element.Modifier.PUBLIC);
            rule(1, tree.getName() + " is of the face, or bears no name of it", tree,
                isPublic || !face.contains(tree.getName().toString()));
            super.visitMethod(tree, none);
            method = null;
            inConstructor = false;
            return null;
        }

        @Override
        public Void visitMethodInvocation(MethodInvocationTree tree, Void none) {
            Element called = trees.getElement(getCurrentPath());
            String owner = called.getEnclosingElement().toString();
            boolean isSuper = tree.getMethodSelect().toString().equals("super");
            if (owner.startsWith("NestedPager")) {
                calls.computeIfAbsent(method, m -> new HashSet<>()).add(called);
            } else if (!isSuper) {
                rule(4, "the library's " + called, tree, LIBRARY.contains(owner + "." + called.getSimpleName()));
            }
            rule(12, "a constructor calls no method", tree, !inConstructor || isSuper);
            return super.visitMethodInvocation(tree, none);
        }

        @Override
        public Void visitNewClass(NewClassTree tree, Void none) {
            TreePath parent = getCurrentPath().getParentPath();
            if (!(parent.getLeaf() instanceof ThrowTree)) {
                rule(12, "nothing is made but in constructors", tree, method == null || inConstructor);
            }
            return super.visitNewClass(tree, none);
        }

        @Override
        public Void visitNewArray(NewArrayTree tree, Void none) {
            rule(12, "no array is made but in constructors", tree, method == null || inConstructor);
            return super.visitNewArray(tree, none);
        }

        @Override
        public Void visitThrow(ThrowTree tree, Void none) {
            rule(6, "what is thrown", tree, tree.getExpression() instanceof NewClassTree made
                && made.getArguments().isEmpty() && THROWN.contains(made.getIdentifier().toString()));
            rule(6, "no throw in a constructor", tree, !inConstructor);
            return super.visitThrow(tree, none);
        }

        @Override
        public Void visitForLoop(ForLoopTree tree, Void none) {
            rule(9, "a counter against a bound", tree,
                tree.getCondition() instanceof BinaryTree && tree.getUpdate().size() == 1);
            return super.visitForLoop(tree, none);
        }

        @Override
        public Void visitWhileLoop(WhileLoopTree tree, Void none) {
            never(9, "a loop that counts nothing", tree);
            return super.visitWhileLoop(tree, none);
        }

        @Override
        public Void visitDoWhileLoop(DoWhileLoopTree tree, Void none) {
            never(9, "a loop that counts nothing", tree);
            return super.visitDoWhileLoop(tree, none);
        }

        @Override
        public Void visitEnhancedForLoop(EnhancedForLoopTree tree, Void none) {
            never(12, "a loop that may make an iterator", tree);
            return super.visitEnhancedForLoop(tree, none);
        }

        @Override
        public Void visitLambdaExpression(LambdaExpressionTree tree, Void none) {
            never(2, "a lambda", tree);
            return super.visitLambdaExpression(tree, none);
        }

        @Override
        public Void visitMemberReference(MemberReferenceTree tree, Void none) {
            never(2, "a method reference", tree);
            return super.visitMemberReference(tree, none);
        }

        @Override
        public Void visitTry(TryTree tree, Void none) {
            never(6, "a try", tree);
            return super.visitTry(tree, none);
        }

        @Override
        public Void visitSynchronized(SynchronizedTree tree, Void none) {
            never(6, "synchronized", tree);
            return super.visitSynchronized(tree, none);
        }

        @Override
        public Void visitAssert(AssertTree tree, Void none) {
            never(6, "an assert", tree);
            return super.visitAssert(tree, none);
        }

        @Override
        public Void visitTypeCast(TypeCastTree tree, Void none) {
            never(6, "a cast", tree);
            return super.visitTypeCast(tree, none);
        }

        @Override
        public Void visitInstanceOf(InstanceOfTree tree, Void none) {
            never(6, "an instanceof", tree);
            return super.visitInstanceOf(tree, none);
        }
    }
}
