import com.sun.source.tree.AssertTree;
import com.sun.source.tree.BinaryTree;
import com.sun.source.tree.BlockTree;
import com.sun.source.tree.ClassTree;
import com.sun.source.tree.CompilationUnitTree;
import com.sun.source.tree.CompoundAssignmentTree;
import com.sun.source.tree.ForLoopTree;
import com.sun.source.tree.ImportTree;
import com.sun.source.tree.LambdaExpressionTree;
import com.sun.source.tree.MemberReferenceTree;
import com.sun.source.tree.MethodInvocationTree;
import com.sun.source.tree.MethodTree;
import com.sun.source.tree.NewArrayTree;
import com.sun.source.tree.NewClassTree;
import com.sun.source.tree.SynchronizedTree;
import com.sun.source.tree.ThrowTree;
import com.sun.source.tree.Tree;
import com.sun.source.tree.TryTree;
import com.sun.source.tree.VariableTree;
import com.sun.source.tree.WhileLoopTree;
import com.sun.source.util.JavacTask;
import com.sun.source.util.TreePath;
import com.sun.source.util.TreePathScanner;
import com.sun.source.util.Trees;
import java.net.URI;
import java.util.HashMap;
import java.util.HashSet;
import java.util.List;
import java.util.Map;
import java.util.Set;
import java.util.TreeSet;
import javax.lang.model.element.Element;
import javax.lang.model.element.ElementKind;
import javax.lang.model.element.Modifier;
import javax.lang.model.element.TypeElement;
import javax.lang.model.type.ArrayType;
import javax.lang.model.type.DeclaredType;
import javax.lang.model.type.TypeMirror;
import javax.tools.JavaCompiler;
import javax.tools.JavaFileObject;
import javax.tools.SimpleJavaFileObject;
import javax.tools.ToolProvider;

/**
 * Finds where a source leaves LANGUAGE.md, as far as its tree can tell. It is stricter than the rules
 * where this program needs less than they allow: no library but Math, no recursion, nothing made
 * outside constructors.
 */
final class Language extends TreePathScanner<Void, Void> {
    private static final int MOST_PARAMETERS = 7;
    private static final int MOST_LINES = 60;
    private static final int DEEPEST_CALLS = 8;
    private static final int MOST_CLASSES = 12;
    private static final int MOST_FIELDS = 20;
    private static final Set<String> CONSTANTS =
            Set.of("int", "long", "boolean", "char", "java.lang.String", "int[]", "long[]", "char[]", "byte[]");

    private final Trees trees;
    private final CompilationUnitTree unit;
    private final Set<String> broken = new TreeSet<>();
    private final Map<Element, Set<Element>> calls = new HashMap<>();
    private int classes;

    private Language(Trees trees, CompilationUnitTree unit) {
        this.trees = trees;
        this.unit = unit;
    }

    /** Each fault as "rule n, line m: what". */
    static Set<String> faults(String source) throws Exception {
        JavaCompiler compiler = ToolProvider.getSystemJavaCompiler();
        JavacTask task = (JavacTask) compiler.getTask(null, null, null,
                List.of("-proc:none"), null, List.of(new Source(source)));
        CompilationUnitTree unit = task.parse().iterator().next();
        task.analyze();
        Language language = new Language(Trees.instance(task), unit);
        language.scan(unit, null);
        language.lookAtCalls();
        return language.broken;
    }

    private void broken(int rule, Tree where, String what) {
        long at = trees.getSourcePositions().getStartPosition(unit, where);
        broken.add("rule " + rule + ", line " + unit.getLineMap().getLineNumber(at) + ": " + what);
    }

    private int linesOf(Tree tree) {
        long start = unit.getLineMap().getLineNumber(trees.getSourcePositions().getStartPosition(unit, tree));
        long end = unit.getLineMap().getLineNumber(trees.getSourcePositions().getEndPosition(unit, tree));
        return (int) (end - start + 1);
    }

    private Element here() {
        return trees.getElement(getCurrentPath());
    }

    private boolean isOwn(Element element) {
        TreePath path = element == null ? null : trees.getPath(element);
        return path != null && path.getCompilationUnit() == unit;
    }

    private boolean isOwnOrPlain(TypeMirror type) {
        if (type instanceof ArrayType) {
            return isOwnOrPlain(((ArrayType) type).getComponentType());
        }
        return type.getKind().isPrimitive()
                || type instanceof DeclaredType && isOwn(((DeclaredType) type).asElement());
    }

    private Element enclosingMethod() {
        for (TreePath path = getCurrentPath(); path != null; path = path.getParentPath()) {
            if (path.getLeaf() instanceof MethodTree) {
                return trees.getElement(path);
            }
        }
        return null;
    }

    private Tree parent() {
        return getCurrentPath().getParentPath().getLeaf();
    }

    @Override
    public Void visitImport(ImportTree tree, Void none) {
        broken(4, tree, "an import");
        return super.visitImport(tree, none);
    }

    @Override
    public Void visitClass(ClassTree tree, Void none) {
        classes++;
        if (classes == MOST_CLASSES + 1) {
            broken(11, tree, "more classes than " + MOST_CLASSES);
        }
        if (parent() instanceof ClassTree) {
            lookAtNested(tree);
        } else if (parent() != unit) {
            broken(2, tree, "a local or anonymous class");
        } else if (!tree.getModifiers().getFlags().containsAll(Set.of(Modifier.PUBLIC, Modifier.FINAL))) {
            broken(1, tree, "a class beside the public final one");
        }
        int fields = 0;
        for (Tree member : tree.getMembers()) {
            if (member instanceof VariableTree
                    && !((VariableTree) member).getModifiers().getFlags().contains(Modifier.STATIC)) {
                fields++;
            }
        }
        if (fields > MOST_FIELDS) {
            broken(11, tree, "more fields than " + MOST_FIELDS);
        }
        return super.visitClass(tree, none);
    }

    private void lookAtNested(ClassTree tree) {
        Set<Modifier> flags = here().getModifiers();
        if (!flags.contains(Modifier.STATIC)) {
            broken(2, tree, "an inner class that is not static");
        }
        if (flags.contains(Modifier.PUBLIC) || flags.contains(Modifier.PROTECTED)) {
            broken(1, tree, "a nested class that is not private or package-visible");
        }
    }

    @Override
    public Void visitLambdaExpression(LambdaExpressionTree tree, Void none) {
        broken(2, tree, "a lambda");
        return super.visitLambdaExpression(tree, none);
    }

    @Override
    public Void visitMemberReference(MemberReferenceTree tree, Void none) {
        broken(2, tree, "a method reference");
        return super.visitMemberReference(tree, none);
    }

    @Override
    public Void visitVariable(VariableTree tree, Void none) {
        Element variable = here();
        if (variable.getModifiers().contains(Modifier.STATIC)) {
            if (!variable.getModifiers().contains(Modifier.FINAL)
                    || !CONSTANTS.contains(variable.asType().toString())) {
                broken(5, tree, "static state");
            }
        } else if (!isOwnOrPlain(variable.asType())) {
            broken(3, tree, "the type " + variable.asType());
        }
        return super.visitVariable(tree, none);
    }

    @Override
    public Void visitBlock(BlockTree tree, Void none) {
        if (tree.isStatic()) {
            broken(5, tree, "a static initialiser");
        }
        return super.visitBlock(tree, none);
    }

    @Override
    public Void visitMethod(MethodTree tree, Void none) {
        calls.computeIfAbsent(here(), method -> new HashSet<>());
        if (tree.getParameters().size() > MOST_PARAMETERS) {
            broken(11, tree, "more parameters than " + MOST_PARAMETERS);
        }
        if (linesOf(tree) > MOST_LINES) {
            broken(11, tree, "more lines than " + MOST_LINES);
        }
        if (here().getModifiers().contains(Modifier.SYNCHRONIZED)) {
            broken(6, tree, "synchronized");
        }
        return super.visitMethod(tree, none);
    }

    @Override
    public Void visitThrow(ThrowTree tree, Void none) {
        broken(6, tree, "throw");
        return super.visitThrow(tree, none);
    }

    @Override
    public Void visitTry(TryTree tree, Void none) {
        broken(6, tree, "try");
        return super.visitTry(tree, none);
    }

    @Override
    public Void visitSynchronized(SynchronizedTree tree, Void none) {
        broken(6, tree, "synchronized");
        return super.visitSynchronized(tree, none);
    }

    @Override
    public Void visitAssert(AssertTree tree, Void none) {
        broken(6, tree, "assert");
        return super.visitAssert(tree, none);
    }

    @Override
    public Void visitForLoop(ForLoopTree tree, Void none) {
        if (tree.getCondition() == null) {
            broken(9, tree, "a loop without a bound");
        }
        return super.visitForLoop(tree, none);
    }

    @Override
    public Void visitWhileLoop(WhileLoopTree tree, Void none) {
        if (tree.getCondition().toString().equals("(true)")) {
            broken(9, tree, "a loop without a bound");
        }
        return super.visitWhileLoop(tree, none);
    }

    @Override
    public Void visitBinary(BinaryTree tree, Void none) {
        if (trees.getTypeMirror(getCurrentPath()).toString().equals("java.lang.String")) {
            broken(10, tree, "texts joined by +");
        }
        return super.visitBinary(tree, none);
    }

    @Override
    public Void visitCompoundAssignment(CompoundAssignmentTree tree, Void none) {
        if (trees.getTypeMirror(getCurrentPath()).toString().equals("java.lang.String")) {
            broken(10, tree, "texts joined by +=");
        }
        return super.visitCompoundAssignment(tree, none);
    }

    @Override
    public Void visitNewClass(NewClassTree tree, Void none) {
        Element maker = here();
        if (!isOwn(maker == null ? null : maker.getEnclosingElement())) {
            broken(4, tree, "new " + tree.getIdentifier());
        }
        lookAtMaking(tree);
        noteCall(maker);
        return super.visitNewClass(tree, none);
    }

    @Override
    public Void visitNewArray(NewArrayTree tree, Void none) {
        lookAtMaking(tree);
        return super.visitNewArray(tree, none);
    }

    private void lookAtMaking(Tree tree) {
        Element method = enclosingMethod();
        if (method != null && method.getKind() != ElementKind.CONSTRUCTOR) {
            broken(12, tree, "something made outside constructors");
        }
    }

    @Override
    public Void visitMethodInvocation(MethodInvocationTree tree, Void none) {
        Element called = here();
        // The compiler itself puts the call of super() into every constructor.
        if (called != null && called.getKind() != ElementKind.CONSTRUCTOR) {
            if (!isOwn(called) && !isMathOfWholeNumbers(called)) {
                broken(4, tree, "a call of " + called.getEnclosingElement() + "." + called);
            }
            noteCall(called);
        }
        return super.visitMethodInvocation(tree, none);
    }

    private boolean isMathOfWholeNumbers(Element called) {
        return ((TypeElement) called.getEnclosingElement()).getQualifiedName().contentEquals("java.lang.Math")
                && called.toString().matches("[A-Za-z]+\\(((int|long),?)+\\)")
                && !called.getSimpleName().toString().endsWith("Exact");
    }

    private void noteCall(Element called) {
        Element caller = enclosingMethod();
        if (caller != null && called != null) {
            calls.computeIfAbsent(caller, method -> new HashSet<>()).add(called);
        }
    }

    private void lookAtCalls() {
        for (Element method : calls.keySet()) {
            if (depthOf(method, new HashSet<>()) > DEEPEST_CALLS) {
                broken(11, trees.getTree(method), "calls that go deeper than " + DEEPEST_CALLS);
            }
        }
    }

    private int depthOf(Element method, Set<Element> open) {
        if (!open.add(method)) {
            broken(8, trees.getTree(method), "recursion");
            return 0;
        }
        int deepest = 0;
        for (Element called : calls.getOrDefault(method, Set.of())) {
            deepest = Math.max(deepest, depthOf(called, open));
        }
        open.remove(method);
        return deepest + 1;
    }

    /** A source that stands in a text. */
    private static final class Source extends SimpleJavaFileObject {
        private final String text;

        Source(String text) {
            super(URI.create("string:///MajorityClock.java"), JavaFileObject.Kind.SOURCE);
            this.text = text;
        }

        @Override
        public CharSequence getCharContent(boolean ignoreErrors) {
            return text;
        }
    }
}
