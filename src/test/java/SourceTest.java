import com.sun.source.tree.BinaryTree;
import com.sun.source.tree.ClassTree;
import com.sun.source.tree.CompilationUnitTree;
import com.sun.source.tree.DoWhileLoopTree;
import com.sun.source.tree.ExpressionTree;
import com.sun.source.tree.ForLoopTree;
import com.sun.source.tree.IdentifierTree;
import com.sun.source.tree.MemberSelectTree;
import com.sun.source.tree.MethodInvocationTree;
import com.sun.source.tree.MethodTree;
import com.sun.source.tree.NewArrayTree;
import com.sun.source.tree.NewClassTree;
import com.sun.source.tree.Tree;
import com.sun.source.tree.TypeCastTree;
import com.sun.source.tree.VariableTree;
import com.sun.source.tree.WhileLoopTree;
import com.sun.source.util.JavacTask;
import com.sun.source.util.TreePath;
import com.sun.source.util.TreePathScanner;
import com.sun.source.util.TreeScanner;
import com.sun.source.util.Trees;
import java.nio.file.Path;
import java.util.ArrayList;
import java.util.EnumSet;
import java.util.LinkedHashMap;
import java.util.LinkedHashSet;
import java.util.List;
import java.util.Map;
import java.util.Set;
import javax.lang.model.element.Element;
import javax.lang.model.element.ElementKind;
import javax.lang.model.element.ExecutableElement;
import javax.lang.model.element.TypeElement;
import javax.lang.model.type.ArrayType;
import javax.lang.model.type.DeclaredType;
import javax.lang.model.type.TypeMirror;
import javax.tools.JavaCompiler;
import javax.tools.StandardJavaFileManager;
import javax.tools.ToolProvider;

/**
 * The rules of LANGUAGE.md that only a compiler sees: which method calls which and how deep that goes, what of the
 * library is used, which types and statements stand in the file.
 */
public final class SourceTest {
    private static final int DEEPEST = 8;
    /** What the class uses by now; rule 4 lists more. */
    private static final Set<String> LIBRARY = Set.of(
        "java.lang.System.arraycopy", "java.lang.Math.max", "java.lang.Math.min", "java.lang.Math.floorMod",
        "java.lang.Math.floorDiv", "java.util.Arrays.fill", "java.lang.String.length", "java.lang.String.charAt");
    private static final Set<Tree.Kind> RULED_OUT = EnumSet.of(
        Tree.Kind.THROW, Tree.Kind.TRY, Tree.Kind.CATCH, Tree.Kind.SYNCHRONIZED, Tree.Kind.ASSERT,
        Tree.Kind.LAMBDA_EXPRESSION, Tree.Kind.MEMBER_REFERENCE, Tree.Kind.YIELD);
    private static final Set<Tree.Kind> BOUNDS = EnumSet.of(
        Tree.Kind.LESS_THAN, Tree.Kind.LESS_THAN_EQUAL, Tree.Kind.GREATER_THAN, Tree.Kind.GREATER_THAN_EQUAL);

    /** A call; one to super reaches that method alone, any other also what stands under it. */
    private record Call(ExecutableElement to, boolean toSuper) {
    }

    private final Trees trees;
    private final Map<ExecutableElement, Set<Call>> calls = new LinkedHashMap<>();
    private final Map<ExecutableElement, Integer> depths = new LinkedHashMap<>();

    private SourceTest(Trees trees) {
        this.trees = trees;
    }

    public static void main(String[] args) throws Exception {
        JavaCompiler compiler = ToolProvider.getSystemJavaCompiler();
        try (StandardJavaFileManager files = compiler.getStandardFileManager(null, null, null)) {
            JavacTask task = (JavacTask) compiler.getTask(null, files, null, List.of("--release", "17", "-proc:none"),
                null, files.getJavaFileObjects(Path.of("src/main/java/BeforeThird.java")));
            Iterable<? extends CompilationUnitTree> units = task.parse();
            task.analyze();
            SourceTest test = new SourceTest(Trees.instance(task));
            for (CompilationUnitTree unit : units) {
                test.new Reading().scan(unit, null);
            }
            test.callDepth();
        }
        Due.end();
    }

    private void callDepth() {
        int deepest = 0;
        for (ExecutableElement m : calls.keySet()) {
            deepest = Math.max(deepest, depth(m, new LinkedHashSet<>()));
        }
        Due.holds("rule 11: calls go at most eight deep, here " + deepest, deepest <= DEEPEST);
        // is, its kinds, its notes, one note, yearly pounds, quarter's, plain's: if fewer, calls are overlooked.
        Due.holds("the longest chain that is known was seen, here " + deepest, deepest >= 7);
    }

    /** How many calls stand open at once from this one on, it and the library's too. */
    private int depth(ExecutableElement m, Set<ExecutableElement> open) {
        if (depths.containsKey(m)) {
            return depths.get(m);
        }
        if (!open.add(m)) {
            Due.holds("rule 8: " + m + " comes back to itself, and this test can't tell its depth", false);
            return 0;
        }
        int below = 0;
        for (Call call : calls.getOrDefault(m, Set.of())) {
            for (ExecutableElement reached : reachedBy(call)) {
                below = Math.max(below, depth(reached, open));
            }
        }
        open.remove(m);
        depths.put(m, below + 1);
        return below + 1;
    }

    private List<ExecutableElement> reachedBy(Call call) {
        List<ExecutableElement> all = new ArrayList<>(List.of(call.to()));
        for (ExecutableElement m : calls.keySet()) {
            boolean sameName = m.getSimpleName().equals(call.to().getSimpleName());
            if (sameName && m.getKind() == ElementKind.METHOD && !call.toSuper() && !m.equals(call.to())
                && isUnder(m.getEnclosingElement(), call.to().getEnclosingElement())) {
                all.add(m);
            }
        }
        return all;
    }

    private static boolean isUnder(Element below, Element above) {
        Element at = below;
        while (at instanceof TypeElement type && !at.equals(above)) {
            at = type.getSuperclass() instanceof DeclaredType up ? up.asElement() : null;
        }
        return above.equals(at);
    }

    private static boolean isOwn(Element e) {
        Element outer = e;
        while (outer.getEnclosingElement() != null && outer.getEnclosingElement().getKind() != ElementKind.PACKAGE) {
            outer = outer.getEnclosingElement();
        }
        return outer.getSimpleName().contentEquals("BeforeThird");
    }

    private static boolean isOwnOrNumber(TypeMirror type) {
        return type.getKind().isPrimitive() || type instanceof DeclaredType d && isOwn(d.asElement());
    }

    private static boolean isAllowed(TypeMirror type) {
        if (type instanceof ArrayType row) {
            return isOwnOrNumber(row.getComponentType());
        }
        return isOwnOrNumber(type) || type.toString().equals("java.lang.String");
    }

    private final class Reading extends TreePathScanner<Void, Void> {
        private ExecutableElement inside;

        @Override
        public Void scan(Tree tree, Void none) {
            if (tree != null) {
                Due.holds("rules 2 and 6: no " + tree.getKind(), !RULED_OUT.contains(tree.getKind()));
            }
            return super.scan(tree, none);
        }

        private Element element() {
            return trees.getElement(getCurrentPath());
        }

        private TypeMirror typeOf(Tree part) {
            return trees.getTypeMirror(new TreePath(getCurrentPath(), part));
        }

        @Override
        public Void visitClass(ClassTree tree, Void none) {
            Element around = element().getEnclosingElement();
            Due.holds("rule 2: " + tree.getSimpleName() + " is not local or deeper",
                around.getKind() == ElementKind.PACKAGE || around.getSimpleName().contentEquals("BeforeThird"));
            return super.visitClass(tree, none);
        }

        @Override
        public Void visitMethod(MethodTree tree, Void none) {
            inside = (ExecutableElement) element();
            calls.put(inside, new LinkedHashSet<>());
            super.visitMethod(tree, none);
            inside = null;
            return null;
        }

        @Override
        public Void visitMethodInvocation(MethodInvocationTree tree, Void none) {
            ExecutableElement to = (ExecutableElement) element();
            String name = to.getEnclosingElement() + "." + to.getSimpleName();
            boolean upwards = to.getKind() == ElementKind.CONSTRUCTOR;
            Due.holds("rule 4: " + name + " is listed", upwards || isOwn(to) || LIBRARY.contains(name));
            if (inside != null && !upwards) {
                calls.get(inside).add(new Call(to, isSuper(tree.getMethodSelect())));
                Due.holds("rule 12: a constructor calls no method, but " + name,
                    inside.getKind() != ElementKind.CONSTRUCTOR);
            }
            return super.visitMethodInvocation(tree, none);
        }

        private boolean isSuper(ExpressionTree select) {
            return select instanceof MemberSelectTree m && m.getExpression() instanceof IdentifierTree i
                && i.getName().contentEquals("super");
        }

        @Override
        public Void visitNewClass(NewClassTree tree, Void none) {
            Due.holds("rule 2: no class without a name", tree.getClassBody() == null);
            Due.holds("rule 4: an object of its own: " + tree, isOwn(element()));
            madeAtFirst(tree);
            return super.visitNewClass(tree, none);
        }

        @Override
        public Void visitNewArray(NewArrayTree tree, Void none) {
            madeAtFirst(tree);
            return super.visitNewArray(tree, none);
        }

        private void madeAtFirst(Tree tree) {
            Due.holds("rule 12: in a constructor: " + tree,
                inside == null || inside.getKind() == ElementKind.CONSTRUCTOR);
        }

        @Override
        public Void visitVariable(VariableTree tree, Void none) {
            Due.holds("rule 3: the type of " + tree, isAllowed(element().asType()));
            return super.visitVariable(tree, none);
        }

        @Override
        public Void visitTypeCast(TypeCastTree tree, Void none) {
            Due.holds("rule 6: a cast among numbers: " + tree, typeOf(tree.getType()).getKind().isPrimitive());
            return super.visitTypeCast(tree, none);
        }

        @Override
        public Void visitBinary(BinaryTree tree, Void none) {
            boolean numbers = typeOf(tree.getLeftOperand()).getKind().isPrimitive()
                && typeOf(tree.getRightOperand()).getKind().isPrimitive();
            Due.holds("rules 6 and 10: numbers on both sides of " + tree, numbers);
            return super.visitBinary(tree, none);
        }

        @Override
        public Void visitForLoop(ForLoopTree tree, Void none) {
            Due.holds("rule 9: for steps on", !tree.getUpdate().isEmpty());
            bounded(tree.getCondition());
            return super.visitForLoop(tree, none);
        }

        @Override
        public Void visitWhileLoop(WhileLoopTree tree, Void none) {
            bounded(tree.getCondition());
            return super.visitWhileLoop(tree, none);
        }

        @Override
        public Void visitDoWhileLoop(DoWhileLoopTree tree, Void none) {
            bounded(tree.getCondition());
            return super.visitDoWhileLoop(tree, none);
        }

        private void bounded(ExpressionTree condition) {
            boolean[] found = new boolean[1];
            new TreeScanner<Void, Void>() {
                @Override
                public Void visitBinary(BinaryTree tree, Void none) {
                    found[0] |= BOUNDS.contains(tree.getKind());
                    return super.visitBinary(tree, none);
                }
            }.scan(condition, null);
            Due.holds("rule 9: a bound stands in " + condition, found[0]);
        }
    }
}
