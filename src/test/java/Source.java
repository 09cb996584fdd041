import com.sun.source.tree.AssignmentTree;
import com.sun.source.tree.BinaryTree;
import com.sun.source.tree.ClassTree;
import com.sun.source.tree.CompilationUnitTree;
import com.sun.source.tree.CompoundAssignmentTree;
import com.sun.source.tree.ExpressionTree;
import com.sun.source.tree.ForLoopTree;
import com.sun.source.tree.IdentifierTree;
import com.sun.source.tree.LiteralTree;
import com.sun.source.tree.MethodInvocationTree;
import com.sun.source.tree.MethodTree;
import com.sun.source.tree.NewArrayTree;
import com.sun.source.tree.NewClassTree;
import com.sun.source.tree.StatementTree;
import com.sun.source.tree.ThrowTree;
import com.sun.source.tree.Tree;
import com.sun.source.tree.TypeCastTree;
import com.sun.source.tree.UnaryTree;
import com.sun.source.tree.VariableTree;
import com.sun.source.util.JavacTask;
import com.sun.source.util.SourcePositions;
import com.sun.source.util.TreePath;
import com.sun.source.util.TreePathScanner;
import com.sun.source.util.TreeScanner;
import com.sun.source.util.Trees;
import java.io.IOException;
import java.nio.file.Path;
import java.util.ArrayList;
import java.util.LinkedHashMap;
import java.util.LinkedHashSet;
import java.util.List;
import java.util.Map;
import java.util.Set;
import java.util.TreeSet;
import javax.lang.model.element.Element;
import javax.lang.model.element.ElementKind;
import javax.lang.model.element.ExecutableElement;
import javax.lang.model.element.Modifier;
import javax.lang.model.element.TypeElement;
import javax.lang.model.element.VariableElement;
import javax.tools.JavaCompiler;
import javax.tools.StandardJavaFileManager;
import javax.tools.ToolProvider;

/** The program's text as the compiler reads it: what stands in it, and which method calls which. */
final class Source extends TreePathScanner<Void, Void> {
    final Set<Tree.Kind> kinds = new TreeSet<>();
    final Set<String> types = new TreeSet<>();
    /** What is called and made that is not the program's own. */
    final Set<String> library = new TreeSet<>();
    final List<TypeElement> classes = new ArrayList<>();
    final Map<ExecutableElement, Method> methods = new LinkedHashMap<>();
    /** What breaks a rule, with its line, by the rule's number. */
    final Map<Integer, List<String>> breaches = new LinkedHashMap<>();
    final CompilationUnitTree unit;

    private final Trees trees;
    private final SourcePositions positions;
    private Method now;

    /** A method with what it calls and throws itself. */
    static final class Method {
        final ExecutableElement element;
        final Set<ExecutableElement> calls = new LinkedHashSet<>();
        final Set<String> thrown = new TreeSet<>();
        final long lines;

        private Method(ExecutableElement element, long lines) {
            this.element = element;
            this.lines = lines;
        }

        boolean isConstructor() {
            return element.getKind() == ElementKind.CONSTRUCTOR;
        }

        @Override
        public String toString() {
            return element.getEnclosingElement().getSimpleName() + "." + element.getSimpleName();
        }
    }

    private Source(Trees trees, CompilationUnitTree unit) {
        this.trees = trees;
        this.unit = unit;
        positions = trees.getSourcePositions();
    }

    static Source of(Path path) throws IOException {
        JavaCompiler compiler = ToolProvider.getSystemJavaCompiler();
        try (StandardJavaFileManager files = compiler.getStandardFileManager(null, null, null)) {
            JavacTask task = (JavacTask) compiler.getTask(null, files, null, List.of("-proc:none"), null,
                    files.getJavaFileObjects(path));
            CompilationUnitTree unit = task.parse().iterator().next();
            task.analyze();
            Source source = new Source(Trees.instance(task), unit);
            source.scan(unit, null);
            return source;
        }
    }

    /** How many methods stand open at once at most, with this one; -1 if it can come to call itself. */
    int depthOf(ExecutableElement element, List<ExecutableElement> open) {
        if (open.contains(element)) {
            return -1;
        }
        open.add(element);
        int deepest = 0;
        for (ExecutableElement called : methods.get(element).calls) {
            int depth = depthOf(called, open);
            if (depth < 0) {
                return -1;
            }
            deepest = Math.max(deepest, depth);
        }
        open.remove(open.size() - 1);
        return deepest + 1;
    }

    /** Which exceptions it throws, itself or by what it calls. */
    Set<String> thrownBy(ExecutableElement element) {
        Set<String> all = new TreeSet<>();
        Set<ExecutableElement> come = new LinkedHashSet<>(List.of(element));
        for (List<ExecutableElement> left = new ArrayList<>(come); !left.isEmpty();) {
            Method method = methods.get(left.remove(left.size() - 1));
            all.addAll(method.thrown);
            for (ExecutableElement called : method.calls) {
                if (come.add(called)) {
                    left.add(called);
                }
            }
        }
        return all;
    }

    @Override
    public Void scan(Tree tree, Void none) {
        if (tree != null) {
            kinds.add(tree.getKind());
        }
        return super.scan(tree, none);
    }

    @Override
    public Void visitClass(ClassTree tree, Void none) {
        classes.add((TypeElement) here());
        return super.visitClass(tree, none);
    }

    @Override
    public Void visitMethod(MethodTree tree, Void none) {
        Method before = now;
        ExecutableElement element = (ExecutableElement) here();
        now = new Method(element, Math.max(1, lineAt(endOf(tree)) - lineAt(startOf(tree)) + 1));
        methods.put(element, now);
        types.add(element.getReturnType().toString());
        super.visitMethod(tree, none);
        now = before;
        return null;
    }

    @Override
    public Void visitVariable(VariableTree tree, Void none) {
        types.add(here().asType().toString());
        return super.visitVariable(tree, none);
    }

    @Override
    public Void visitMethodInvocation(MethodInvocationTree tree, Void none) {
        noteCall((ExecutableElement) here());
        return super.visitMethodInvocation(tree, none);
    }

    @Override
    public Void visitNewClass(NewClassTree tree, Void none) {
        boolean isThrown = getCurrentPath().getParentPath().getLeaf() instanceof ThrowTree;
        if (!isThrown && now != null && !now.isConstructor()) {
            breach(12, "an object is made outside a constructor", tree);
        }
        noteCall((ExecutableElement) here());
        return super.visitNewClass(tree, none);
    }

    private void noteCall(ExecutableElement called) {
        if (!isOwn(called)) {
            library.add(called.getEnclosingElement() + "." + called);
        } else if (now != null) {
            now.calls.add(called);
        }
    }

    @Override
    public Void visitNewArray(NewArrayTree tree, Void none) {
        if (now != null && !now.isConstructor()) {
            breach(12, "an array is made outside a constructor", tree);
        }
        if (tree.getDimensions().size() != 1) {
            breach(3, "an array is not of one dimension", tree);
        }
        types.add(typeOf(tree));
        return super.visitNewArray(tree, none);
    }

    @Override
    public Void visitThrow(ThrowTree tree, Void none) {
        boolean isWritten = tree.getExpression() instanceof NewClassTree made
                && (made.getArguments().isEmpty()
                || made.getArguments().size() == 1 && made.getArguments().get(0) instanceof LiteralTree);
        if (!isWritten) {
            breach(6, "what is thrown is not made with a written text", tree);
        }
        if (now == null || now.isConstructor()) {
            breach(6, "a constructor throws", tree);
        } else {
            now.thrown.add(typeOf(tree.getExpression()));
        }
        return super.visitThrow(tree, none);
    }

    @Override
    public Void visitTypeCast(TypeCastTree tree, Void none) {
        if (!trees.getTypeMirror(new TreePath(getCurrentPath(), tree.getType())).getKind().isPrimitive()) {
            breach(6, "a cast is not one of numbers", tree);
        }
        return super.visitTypeCast(tree, none);
    }

    @Override
    public Void visitBinary(BinaryTree tree, Void none) {
        noteOperator(tree, tree.getKind(), tree.getLeftOperand(), tree.getRightOperand());
        return super.visitBinary(tree, none);
    }

    @Override
    public Void visitCompoundAssignment(CompoundAssignmentTree tree, Void none) {
        noteOperator(tree, tree.getKind(), tree.getVariable(), tree.getExpression());
        return super.visitCompoundAssignment(tree, none);
    }

    private void noteOperator(Tree tree, Tree.Kind kind, ExpressionTree left, ExpressionTree right) {
        boolean isText = typeOf(left).endsWith("String") || typeOf(right).endsWith("String");
        if (isText && kind != Tree.Kind.EQUAL_TO && kind != Tree.Kind.NOT_EQUAL_TO) {
            breach(10, "texts are joined by a sign", tree);
        } else if (isText) {
            breach(6, "texts are compared by a sign", tree);
        }
        boolean isDouble = typeOf(left).equals("double") || typeOf(right).equals("double");
        boolean isRest = kind == Tree.Kind.REMAINDER || kind == Tree.Kind.REMAINDER_ASSIGNMENT;
        boolean isDivision = isRest || kind == Tree.Kind.DIVIDE || kind == Tree.Kind.DIVIDE_ASSIGNMENT;
        if (isDouble && isRest) {
            breach(3, "a rest of doubles", tree);
        }
        if (isDivision && !isDouble && !isConstantBesideZero(right)) {
            breach(7, "a divisor is no constant", tree);
        }
    }

    private boolean isConstantBesideZero(ExpressionTree tree) {
        Object value = tree instanceof LiteralTree literal ? literal.getValue()
                : trees.getElement(new TreePath(getCurrentPath(), tree)) instanceof VariableElement constant
                ? constant.getConstantValue() : null;
        return value instanceof Number number && number.longValue() != 0;
    }

    @Override
    public Void visitForLoop(ForLoopTree tree, Void none) {
        if (!isCounted(tree)) {
            breach(9, "a loop without a counter against a bound", tree);
        }
        return super.visitForLoop(tree, none);
    }

    /** One counter, told and counted by the loop's head alone, and held against a bound in it. */
    private boolean isCounted(ForLoopTree tree) {
        List<? extends StatementTree> starts = tree.getInitializer();
        if (starts.size() != 1 || tree.getUpdate().size() != 1
                || !(starts.get(0) instanceof VariableTree counter)
                || !(tree.getUpdate().get(0).getExpression() instanceof UnaryTree count)) {
            return false;
        }
        String name = counter.getName().toString();
        boolean isUp = count.getKind() == Tree.Kind.POSTFIX_INCREMENT;
        boolean isDown = count.getKind() == Tree.Kind.POSTFIX_DECREMENT;
        return (isUp || isDown) && isNamed(count.getExpression(), name)
                && isBounded(tree.getCondition(), name, isUp) && !isAssigned(tree.getStatement(), name);
    }

    private static boolean isBounded(ExpressionTree tree, String name, boolean isUp) {
        if (!(tree instanceof BinaryTree binary)) {
            return false;
        }
        if (binary.getKind() == Tree.Kind.CONDITIONAL_AND) {
            return isBounded(binary.getLeftOperand(), name, isUp)
                    || isBounded(binary.getRightOperand(), name, isUp);
        }
        Set<Tree.Kind> due = isUp ? Set.of(Tree.Kind.LESS_THAN, Tree.Kind.LESS_THAN_EQUAL)
                : Set.of(Tree.Kind.GREATER_THAN, Tree.Kind.GREATER_THAN_EQUAL);
        return due.contains(binary.getKind()) && isNamed(binary.getLeftOperand(), name);
    }

    private static boolean isAssigned(Tree body, String name) {
        boolean[] found = new boolean[1];
        new TreeScanner<Void, Void>() {
            @Override
            public Void visitAssignment(AssignmentTree tree, Void none) {
                found[0] |= isNamed(tree.getVariable(), name);
                return super.visitAssignment(tree, none);
            }

            @Override
            public Void visitCompoundAssignment(CompoundAssignmentTree tree, Void none) {
                found[0] |= isNamed(tree.getVariable(), name);
                return super.visitCompoundAssignment(tree, none);
            }

            @Override
            public Void visitUnary(UnaryTree tree, Void none) {
                boolean isCount = tree.getKind().toString().endsWith("CREMENT");
                found[0] |= isCount && isNamed(tree.getExpression(), name);
                return super.visitUnary(tree, none);
            }
        }.scan(body, null);
        return found[0];
    }

    private static boolean isNamed(Tree tree, String name) {
        return tree instanceof IdentifierTree identifier && identifier.getName().contentEquals(name);
    }

    private Element here() {
        return trees.getElement(getCurrentPath());
    }

    private String typeOf(ExpressionTree tree) {
        return trees.getTypeMirror(new TreePath(getCurrentPath(), tree)).toString();
    }

    private static boolean isOwn(Element element) {
        Element outer = element;
        while (outer.getEnclosingElement() instanceof TypeElement enclosing) {
            outer = enclosing;
        }
        return outer.getSimpleName().contentEquals("Ironwood");
    }

    static boolean isPrivate(Element element) {
        return element.getModifiers().contains(Modifier.PRIVATE);
    }

    private long startOf(Tree tree) {
        return positions.getStartPosition(unit, tree);
    }

    private long endOf(Tree tree) {
        return positions.getEndPosition(unit, tree);
    }

    /** What the compiler adds itself stands nowhere. */
    private long lineAt(long position) {
        return position < 0 ? 0 : unit.getLineMap().getLineNumber(position);
    }

    private void breach(int rule, String what, Tree tree) {
        breaches.computeIfAbsent(rule, r -> new ArrayList<>()).add(what + ", line " + lineAt(startOf(tree)));
    }
}
