import com.sun.source.tree.AssertTree;
import com.sun.source.tree.BinaryTree;
import com.sun.source.tree.ClassTree;
import com.sun.source.tree.CompilationUnitTree;
import com.sun.source.tree.CompoundAssignmentTree;
import com.sun.source.tree.DoWhileLoopTree;
import com.sun.source.tree.ExpressionTree;
import com.sun.source.tree.ForLoopTree;
import com.sun.source.tree.IfTree;
import com.sun.source.tree.LambdaExpressionTree;
import com.sun.source.tree.MemberReferenceTree;
import com.sun.source.tree.MethodInvocationTree;
import com.sun.source.tree.MethodTree;
import com.sun.source.tree.NewArrayTree;
import com.sun.source.tree.NewClassTree;
import com.sun.source.tree.SynchronizedTree;
import com.sun.source.tree.ThrowTree;
import com.sun.source.tree.Tree;
import com.sun.source.tree.TryTree;
import com.sun.source.tree.TypeCastTree;
import com.sun.source.tree.VariableTree;
import com.sun.source.tree.WhileLoopTree;
import com.sun.source.util.JavacTask;
import com.sun.source.util.TreePath;
import com.sun.source.util.TreePathScanner;
import com.sun.source.util.Trees;
import java.io.IOException;
import java.nio.file.Path;
import java.util.ArrayList;
import java.util.HashMap;
import java.util.HashSet;
import java.util.List;
import java.util.Map;
import java.util.Set;
import java.util.TreeMap;
import java.util.TreeSet;
import javax.lang.model.element.Element;
import javax.lang.model.element.ExecutableElement;
import javax.lang.model.element.Modifier;
import javax.lang.model.element.TypeElement;
import javax.lang.model.type.ArrayType;
import javax.lang.model.type.TypeKind;
import javax.lang.model.type.TypeMirror;
import javax.tools.JavaCompiler;
import javax.tools.StandardJavaFileManager;
import javax.tools.ToolProvider;

/** LANGUAGE.md, rule by rule, as the compiler's own tree of the class shows it. */
public final class LanguageTest extends TreePathScanner<Void, Void> {
    private static final Path SOURCE = Path.of("src/main/java/SignedClouds.java");
    private static final Set<String> LIBRARY = Set.of("java.lang.Math.max", "java.lang.Math.min", "java.lang.Math.abs",
            "java.lang.Integer.bitCount", "java.lang.System.arraycopy");
    /** The calls that may call themselves: each carries its depth (rule 8). */
    private static final Set<String> RECURSIVE = Set.of("Towing.tryFrom", "Asks.answer", "Asks.body");
    private static final int MOST_DEEP = 8, MOST_LINES = 60, MOST_PARAMETERS = 7, MOST_CLASSES = 12, MOST_FIELDS = 20;

    private final Trees trees;
    private final CompilationUnitTree unit;
    private final Map<String, Set<String>> calls = new TreeMap<>();
    private final Map<String, Integer> depths = new HashMap<>();
    private final Set<String> open = new TreeSet<>();
    private final Map<String, Integer> fields = new TreeMap<>();
    private int classes;
    private int looked;
    private int wrong;

    private LanguageTest(Trees trees, CompilationUnitTree unit) {
        this.trees = trees;
        this.unit = unit;
    }

    public static void main(String[] args) throws IOException {
        JavaCompiler compiler = ToolProvider.getSystemJavaCompiler();
        if (compiler == null) {
            System.out.println("there is no compiler to read the class with");
            System.exit(1);
        }
        try (StandardJavaFileManager files = compiler.getStandardFileManager(null, null, null)) {
            Path source = args.length > 0 ? Path.of(args[0]) : SOURCE;
            JavacTask task = (JavacTask) compiler.getTask(null, files, null, List.of("--release", "17"), null,
                    files.getJavaFileObjects(source));
            CompilationUnitTree unit = task.parse().iterator().next();
            task.analyze();
            LanguageTest test = new LanguageTest(Trees.instance(task), unit);
            test.scan(unit, null);
            test.end();
        }
    }

    private void end() {
        wrongIf(classes > MOST_CLASSES, 11, classes + " classes");
        fields.forEach((name, many) -> wrongIf(many > MOST_FIELDS, 11, many + " fields of " + name));
        Set<String> recursive = new TreeSet<>();
        for (String method : calls.keySet()) {
            if (reaches(method, method, new HashSet<>())) {
                recursive.add(method);
            }
        }
        wrongIf(!recursive.equals(new TreeSet<>(RECURSIVE)), 8, "these call themselves: " + recursive);
        for (String method : open) {
            // whoever makes the call is the first of the eight
            int deep = 1 + depth(method, recursive);
            wrongIf(deep > MOST_DEEP, 11, method + " goes " + deep + " deep");
        }
        System.out.println(looked + " places looked at, " + wrong + " wrong");
        if (wrong != 0 || looked == 0 || open.isEmpty()) {
            System.exit(1);
        }
    }

    private void wrongIf(boolean is, int rule, String what) {
        looked++;
        if (is) {
            wrong++;
            System.out.println("rule " + rule + ": " + what);
        }
    }

    private void never(int rule, Tree tree) {
        wrongIf(true, rule, tree.getKind() + " in line " + line(tree, false));
    }

    private long line(Tree tree, boolean last) {
        long at = last ? trees.getSourcePositions().getEndPosition(unit, tree)
                : trees.getSourcePositions().getStartPosition(unit, tree);
        return unit.getLineMap().getLineNumber(at);
    }

    // ---- the depth of calls

    private boolean reaches(String from, String to, Set<String> known) {
        for (String next : calls.getOrDefault(from, Set.of())) {
            if (next.equals(to) || known.add(next) && reaches(next, to, known)) {
                return true;
            }
        }
        return false;
    }

    /** How many calls stand open at once, recursion as one. */
    private int depth(String method, Set<String> recursive) {
        Integer known = depths.get(method);
        if (known != null) {
            return known;
        }
        int deepest = 0;
        for (String next : beyond(method, recursive)) {
            deepest = Math.max(deepest, depth(next, recursive));
        }
        depths.put(method, deepest + 1);
        return deepest + 1;
    }

    /** What a method calls; what a recursion calls, if it is one, all together. */
    private Set<String> beyond(String method, Set<String> recursive) {
        Set<String> next = new TreeSet<>(calls.getOrDefault(method, Set.of()));
        if (recursive.contains(method)) {
            for (String other : recursive) {
                if (reaches(method, other, new HashSet<>())) {
                    next.addAll(calls.get(other));
                }
            }
            next.removeAll(recursive);
        }
        return next;
    }

    private static String nameOf(ExecutableElement method) {
        return method.getEnclosingElement().getSimpleName() + "." + method.getSimpleName();
    }

    private String inWhat() {
        for (TreePath at = getCurrentPath(); at != null; at = at.getParentPath()) {
            if (at.getLeaf() instanceof MethodTree) {
                return nameOf((ExecutableElement) trees.getElement(at));
            }
            if (at.getLeaf() instanceof ClassTree) {
                return trees.getElement(at).getSimpleName() + ".<init>";
            }
        }
        return "";
    }

    // ---- rules 1, 2, 5, 11: classes, fields, methods

    @Override
    public Void visitClass(ClassTree tree, Void none) {
        classes++;
        Element element = trees.getElement(getCurrentPath());
        boolean outer = getCurrentPath().getParentPath().getLeaf() == unit;
        boolean member = getCurrentPath().getParentPath().getLeaf() instanceof ClassTree;
        wrongIf(!outer && !(member && element.getModifiers().contains(Modifier.STATIC)), 2, "not static: " + element);
        wrongIf(!outer && element.getModifiers().contains(Modifier.PUBLIC), 1, "public: " + element);
        return super.visitClass(tree, none);
    }

    @Override
    public Void visitMethod(MethodTree tree, Void none) {
        ExecutableElement method = (ExecutableElement) trees.getElement(getCurrentPath());
        if (method.getModifiers().contains(Modifier.PUBLIC)) {
            open.add(nameOf(method));
        }
        wrongIf(tree.getParameters().size() > MOST_PARAMETERS, 11, "parameters of " + method);
        boolean written = trees.getSourcePositions().getEndPosition(unit, tree) >= 0;
        wrongIf(written && line(tree, true) - line(tree, false) >= MOST_LINES, 11, method + " is long");
        wrongIf(!isOfOurs(method.getReturnType()), 3, "answers " + method.getReturnType());
        return super.visitMethod(tree, none);
    }

    @Override
    public Void visitVariable(VariableTree tree, Void none) {
        Element element = trees.getElement(getCurrentPath());
        wrongIf(!isOfOurs(element.asType()), 3, element + " is " + element.asType());
        if (element.getEnclosingElement() instanceof TypeElement) {
            if (element.getModifiers().contains(Modifier.STATIC)) {
                boolean written = tree.getInitializer() != null;
                wrongIf(!element.getModifiers().contains(Modifier.FINAL) || !written, 5, element + " is not final");
            } else {
                fields.merge(element.getEnclosingElement().toString(), 1, Integer::sum);
            }
        }
        return super.visitVariable(tree, none);
    }

    /** Numbers, arrays of them of one or two dimensions, own classes and arrays of them of one. */
    private static boolean isOfOurs(TypeMirror type) {
        if (type instanceof ArrayType array) {
            TypeMirror part = array.getComponentType();
            boolean two = part instanceof ArrayType inner && inner.getComponentType().getKind().isPrimitive();
            return two || !(part instanceof ArrayType) && isOfOurs(part);
        }
        TypeKind kind = type.getKind();
        boolean number = kind.isPrimitive() && kind != TypeKind.DOUBLE && kind != TypeKind.FLOAT;
        return number || kind == TypeKind.VOID || type.toString().startsWith("SignedClouds");
    }

    // ---- rules 4, 12: what is called, what is made

    @Override
    public Void visitMethodInvocation(MethodInvocationTree tree, Void none) {
        ExecutableElement called = (ExecutableElement) trees.getElement(getCurrentPath());
        String owner = called.getEnclosingElement().toString();
        boolean above = owner.equals("java.lang.Object") && called.getSimpleName().contentEquals("<init>");
        if (!above) {
            boolean ours = owner.startsWith("SignedClouds");
            wrongIf(!ours && !LIBRARY.contains(owner + "." + called.getSimpleName()), 4, owner + "." + called);
            calls.computeIfAbsent(inWhat(), k -> new TreeSet<>()).add(nameOf(called));
        }
        return super.visitMethodInvocation(tree, none);
    }

    @Override
    public Void visitNewClass(NewClassTree tree, Void none) {
        wrongIf(!inWhat().endsWith("<init>"), 12, tree + " is made in " + inWhat());
        wrongIf(tree.getClassBody() != null, 2, tree + " has a body of its own");
        calls.computeIfAbsent(inWhat(), k -> new TreeSet<>())
                .add(nameOf((ExecutableElement) trees.getElement(getCurrentPath())));
        return super.visitNewClass(tree, none);
    }

    @Override
    public Void visitNewArray(NewArrayTree tree, Void none) {
        wrongIf(!inWhat().endsWith("<init>"), 12, tree + " is made in " + inWhat());
        return super.visitNewArray(tree, none);
    }

    // ---- rule 7: divisors and casts

    @Override
    public Void visitBinary(BinaryTree tree, Void none) {
        if (tree.getKind() == Tree.Kind.DIVIDE || tree.getKind() == Tree.Kind.REMAINDER) {
            lookAtDivisor(tree.getRightOperand());
        }
        return super.visitBinary(tree, none);
    }

    @Override
    public Void visitCompoundAssignment(CompoundAssignmentTree tree, Void none) {
        if (tree.getKind() == Tree.Kind.DIVIDE_ASSIGNMENT || tree.getKind() == Tree.Kind.REMAINDER_ASSIGNMENT) {
            lookAtDivisor(tree.getExpression());
        }
        return super.visitCompoundAssignment(tree, none);
    }

    /** It is a constant, or a condition around it has looked at it. */
    private void lookAtDivisor(ExpressionTree divisor) {
        boolean literal = divisor.getKind() == Tree.Kind.INT_LITERAL || divisor.getKind() == Tree.Kind.LONG_LITERAL;
        boolean constant = divisor.toString().matches("[A-Z][A-Z_]*");
        boolean seen = conditionsAround().stream().anyMatch(c -> c.contains(divisor.toString()));
        wrongIf(!literal && !constant && !seen, 7, "nobody looked at the divisor " + divisor);
    }

    private List<String> conditionsAround() {
        List<String> conditions = new ArrayList<>();
        for (TreePath at = getCurrentPath(); at != null; at = at.getParentPath()) {
            if (at.getLeaf() instanceof IfTree tree) {
                conditions.add(tree.getCondition().toString());
            } else if (at.getLeaf() instanceof ForLoopTree tree) {
                conditions.add(String.valueOf(tree.getCondition()));
            } else if (at.getLeaf() instanceof WhileLoopTree tree) {
                conditions.add(tree.getCondition().toString());
            }
        }
        return conditions;
    }

    @Override
    public Void visitTypeCast(TypeCastTree tree, Void none) {
        wrongIf(!trees.getTypeMirror(new TreePath(getCurrentPath(), tree.getType())).getKind().isPrimitive(), 7,
                "a cast of " + tree);
        return super.visitTypeCast(tree, none);
    }

    // ---- rule 9: loops

    @Override
    public Void visitForLoop(ForLoopTree tree, Void none) {
        String condition = String.valueOf(tree.getCondition());
        wrongIf(!condition.contains("<") && !condition.contains(">"), 9, "a loop without a bound: " + condition);
        wrongIf(tree.getUpdate().size() != 1, 9, "a loop that does not count: " + condition);
        return super.visitForLoop(tree, none);
    }

    @Override
    public Void visitWhileLoop(WhileLoopTree tree, Void none) {
        wrongIf(!tree.getCondition().toString().contains(" < "), 9, "a loop without a bound: " + tree.getCondition());
        return super.visitWhileLoop(tree, none);
    }

    @Override
    public Void visitDoWhileLoop(DoWhileLoopTree tree, Void none) {
        wrongIf(!tree.getCondition().toString().contains(" < "), 9, "a loop without a bound: " + tree.getCondition());
        return super.visitDoWhileLoop(tree, none);
    }

    // ---- rules 2, 6: what never stands there

    @Override
    public Void visitLambdaExpression(LambdaExpressionTree tree, Void none) {
        never(2, tree);
        return super.visitLambdaExpression(tree, none);
    }

    @Override
    public Void visitMemberReference(MemberReferenceTree tree, Void none) {
        never(2, tree);
        return super.visitMemberReference(tree, none);
    }

    @Override
    public Void visitThrow(ThrowTree tree, Void none) {
        never(6, tree);
        return super.visitThrow(tree, none);
    }

    @Override
    public Void visitTry(TryTree tree, Void none) {
        never(6, tree);
        return super.visitTry(tree, none);
    }

    @Override
    public Void visitSynchronized(SynchronizedTree tree, Void none) {
        never(6, tree);
        return super.visitSynchronized(tree, none);
    }

    @Override
    public Void visitAssert(AssertTree tree, Void none) {
        never(6, tree);
        return super.visitAssert(tree, none);
    }
}
