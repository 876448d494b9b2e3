import com.sun.source.tree.ArrayAccessTree;
import com.sun.source.tree.AssertTree;
import com.sun.source.tree.BinaryTree;
import com.sun.source.tree.ClassTree;
import com.sun.source.tree.CompilationUnitTree;
import com.sun.source.tree.CompoundAssignmentTree;
import com.sun.source.tree.DoWhileLoopTree;
import com.sun.source.tree.ExpressionTree;
import com.sun.source.tree.ForLoopTree;
import com.sun.source.tree.LambdaExpressionTree;
import com.sun.source.tree.LiteralTree;
import com.sun.source.tree.MemberReferenceTree;
import com.sun.source.tree.MethodInvocationTree;
import com.sun.source.tree.MethodTree;
import com.sun.source.tree.NewArrayTree;
import com.sun.source.tree.NewClassTree;
import com.sun.source.tree.SynchronizedTree;
import com.sun.source.tree.ThrowTree;
import com.sun.source.tree.Tree;
import com.sun.source.tree.TryTree;
import com.sun.source.tree.TypeCastTree;
import com.sun.source.tree.VariableTree;
import com.sun.source.tree.WhileLoopTree;
import com.sun.source.util.JavacTask;
import com.sun.source.util.SourcePositions;
import com.sun.source.util.TreePathScanner;
import com.sun.source.util.Trees;
import java.nio.charset.StandardCharsets;
import java.nio.file.Files;
import java.nio.file.Path;
import java.util.HashMap;
import java.util.HashSet;
import java.util.List;
import java.util.Map;
import java.util.Set;
import java.util.TreeSet;
import javax.lang.model.element.Element;
import javax.lang.model.element.ElementKind;
import javax.lang.model.element.Modifier;
import javax.tools.JavaCompiler;
import javax.tools.StandardJavaFileManager;
import javax.tools.ToolProvider;

/**
 * What of LANGUAGE.md can be read off the program's text. It is stricter than the rules where the
 * program can be: no list, no try and no while loop at all, and arrays and divisors that are not
 * constant only in the few methods that look at them first.
 */
public final class LanguageTest extends TreePathScanner<Void, Void> {
    private static final Path PROGRAM = Path.of("src", "main", "java", "BeadSpirals.java");
    private static final Set<String> LIBRARY = Set.of("java.lang.Math.max", "java.lang.Math.min");
    private static final Set<String> EXCEPTIONS = Set.of("IllegalStateException",
            "IllegalArgumentException", "IndexOutOfBoundsException");
    private static final Set<String> LOOK_AT_INDEXES =
            Set.of("at", "put", "copy", "sum", "slot", "History.<init>");
    private static final Set<String> LOOK_AT_DIVISORS = Set.of("quotient", "remainder", "placeFor");
    private static final int MOST_CALLS_OPEN = 8;
    private static final int MOST_PARAMETERS = 7;
    private static final int MOST_LINES = 60;
    private static final int MOST_CLASSES = 12;
    private static final int MOST_FIELDS = 20;

    private final Trees trees;
    private final CompilationUnitTree unit;
    private final Map<Element, Set<Element>> calls = new HashMap<>();
    private final Map<Element, Integer> depths = new HashMap<>();
    private int classes = 0;
    private String className = "";
    private MethodTree method = null;
    private Element methodElement = null;

    private LanguageTest(Trees trees, CompilationUnitTree unit) {
        this.trees = trees;
        this.unit = unit;
    }

    public static void main(String[] args) throws Exception {
        signs();
        JavaCompiler compiler = ToolProvider.getSystemJavaCompiler();
        try (StandardJavaFileManager files = compiler.getStandardFileManager(null, null, null)) {
            JavacTask task = (JavacTask) compiler.getTask(null, files, null, List.of("-proc:none"),
                    null, files.getJavaFileObjects(PROGRAM));
            CompilationUnitTree unit = task.parse().iterator().next();
            task.analyze();
            LanguageTest test = new LanguageTest(Trees.instance(task), unit);
            test.scan(unit, null);
            test.wholeFile();
        }
        Check.finish();
    }

    private static void signs() throws Exception {
        String text = Files.readString(PROGRAM, StandardCharsets.ISO_8859_1);
        Check.due("rules 3 and 4: signs beyond 126", text.chars().filter(sign -> sign > 126).count(), 0);
    }

    private static void holds(String rule, boolean isHeld) {
        Check.due("rule " + rule, isHeld ? 1 : 0, 1);
    }

    private void never(String rule, Tree tree) {
        Check.fail("rule " + rule + ": " + tree);
    }

    private void wholeFile() {
        holds("1: no package", unit.getPackageName() == null);
        holds("1: one class", unit.getTypeDecls().size() == 1);
        holds("4: no import", unit.getImports().isEmpty());
        holds("11: classes", classes <= MOST_CLASSES);
        for (Element one : calls.keySet()) {
            int depth = depth(one, new HashSet<>());
            holds("11: calls that stand open in " + one + ": " + depth, depth <= MOST_CALLS_OPEN);
        }
    }

    /** How many methods stand open at once, this one among them. */
    private int depth(Element one, Set<Element> open) {
        if (!open.add(one)) {
            Check.fail("rule 8: " + one + " calls itself");
            return MOST_CALLS_OPEN + 1;
        }
        Integer known = depths.get(one);
        if (known == null) {
            int deepest = 0;
            for (Element called : calls.getOrDefault(one, Set.of())) {
                deepest = Math.max(deepest, depth(called, open));
            }
            known = deepest + 1;
            depths.put(one, known);
        }
        open.remove(one);
        return known;
    }

    // ---- classes, fields and methods

    @Override
    public Void visitClass(ClassTree tree, Void nothing) {
        classes++;
        Set<Modifier> modifiers = tree.getModifiers().getFlags();
        boolean isOuter = className.isEmpty();
        holds("1: modifiers of " + tree.getSimpleName(), modifiers.equals(isOuter
                ? Set.of(Modifier.PUBLIC, Modifier.FINAL)
                : Set.of(Modifier.PRIVATE, Modifier.STATIC, Modifier.FINAL)));
        String before = className;
        className = tree.getSimpleName().toString();
        int fields = 0;
        for (Tree member : tree.getMembers()) {
            if (member instanceof VariableTree) {
                fields += field((VariableTree) member);
            }
        }
        holds("11: fields of " + className, fields <= MOST_FIELDS);
        super.visitClass(tree, nothing);
        className = before;
        return null;
    }

    /** Returns 0 for a constant. */
    private int field(VariableTree tree) {
        Set<Modifier> modifiers = tree.getModifiers().getFlags();
        holds("1: private field " + tree.getName(), modifiers.contains(Modifier.PRIVATE)
                || tree.getName().contentEquals("NONE"));
        if (!modifiers.contains(Modifier.STATIC)) {
            return 1;
        }
        holds("5: final field " + tree.getName(), modifiers.contains(Modifier.FINAL));
        holds("5: type of " + tree.getName(),
                Set.of("int", "long", "int[]").contains(tree.getType().toString()));
        holds("5: value of " + tree.getName(), tree.getInitializer() != null);
        return 0;
    }

    @Override
    public Void visitMethod(MethodTree tree, Void nothing) {
        method = tree;
        methodElement = trees.getElement(getCurrentPath());
        calls.putIfAbsent(methodElement, new HashSet<>());
        holds("11: parameters of " + tree.getName(),
                tree.getParameters().size() <= MOST_PARAMETERS);
        SourcePositions places = trees.getSourcePositions();
        long lines = unit.getLineMap().getLineNumber(places.getEndPosition(unit, tree))
                - unit.getLineMap().getLineNumber(places.getStartPosition(unit, tree)) + 1;
        holds("11: lines of " + tree.getName(), lines <= MOST_LINES);
        super.visitMethod(tree, nothing);
        method = null;
        return null;
    }

    private boolean isIn(Set<String> methods) {
        return method != null && (methods.contains(method.getName().toString())
                || methods.contains(className + "." + method.getName()));
    }

    // ---- what is called, made and thrown

    @Override
    public Void visitMethodInvocation(MethodInvocationTree tree, Void nothing) {
        Element called = trees.getElement(getCurrentPath());
        String owner = called.getEnclosingElement().toString();
        String name = owner + "." + called.getSimpleName();
        if (owner.startsWith("BeadSpirals")) {
            calls.get(methodElement).add(called);
        } else if (called.getKind() != ElementKind.CONSTRUCTOR) {
            holds("4: " + name, LIBRARY.contains(name));
        }
        return super.visitMethodInvocation(tree, nothing);
    }

    @Override
    public Void visitNewClass(NewClassTree tree, Void nothing) {
        String name = tree.getIdentifier().toString();
        boolean isThrown = getCurrentPath().getParentPath().getLeaf() instanceof ThrowTree;
        holds("12: new " + name, isThrown ? EXCEPTIONS.contains(name)
                : method != null && method.getReturnType() == null);
        Element made = trees.getElement(getCurrentPath());
        if (!isThrown) {
            calls.get(methodElement).add(made);
        }
        return super.visitNewClass(tree, nothing);
    }

    @Override
    public Void visitNewArray(NewArrayTree tree, Void nothing) {
        holds("12: an array is made in a constructor or as a constant",
                method == null || method.getReturnType() == null);
        return super.visitNewArray(tree, nothing);
    }

    @Override
    public Void visitThrow(ThrowTree tree, Void nothing) {
        boolean isNew = tree.getExpression() instanceof NewClassTree;
        holds("6: throw new, not in a constructor", isNew && method.getReturnType() != null);
        if (isNew) {
            for (ExpressionTree text : ((NewClassTree) tree.getExpression()).getArguments()) {
                holds("6: a written text", text instanceof LiteralTree);
            }
        }
        return super.visitThrow(tree, nothing);
    }

    // ---- what could fail, and what could not end

    @Override
    public Void visitArrayAccess(ArrayAccessTree tree, Void nothing) {
        holds("7: an index is looked at: " + tree, isIn(LOOK_AT_INDEXES));
        return super.visitArrayAccess(tree, nothing);
    }

    @Override
    public Void visitBinary(BinaryTree tree, Void nothing) {
        if (tree.getKind() == Tree.Kind.DIVIDE || tree.getKind() == Tree.Kind.REMAINDER) {
            String divisor = tree.getRightOperand().toString();
            boolean isConstant = divisor.matches("[1-9]\\d*|[A-Z_]+");
            boolean isDouble = divisor.startsWith("(double)");
            holds("7: a divisor is looked at: " + tree,
                    isConstant || isDouble || isIn(LOOK_AT_DIVISORS));
        }
        if (tree.getKind() == Tree.Kind.PLUS) {
            holds("10: no text is joined by +", !tree.toString().contains("\""));
        }
        return super.visitBinary(tree, nothing);
    }

    @Override
    public Void visitCompoundAssignment(CompoundAssignmentTree tree, Void nothing) {
        holds("7: no divisor behind " + tree, tree.getKind() == Tree.Kind.PLUS_ASSIGNMENT
                || tree.getKind() == Tree.Kind.MINUS_ASSIGNMENT);
        return super.visitCompoundAssignment(tree, nothing);
    }

    @Override
    public Void visitTypeCast(TypeCastTree tree, Void nothing) {
        holds("7: a cast of a number: " + tree,
                Set.of("double", "long").contains(tree.getType().toString()));
        return super.visitTypeCast(tree, nothing);
    }

    @Override
    public Void visitForLoop(ForLoopTree tree, Void nothing) {
        holds("9: a loop has an end: " + tree.getCondition(), tree.getCondition() != null);
        return super.visitForLoop(tree, nothing);
    }

    @Override
    public Void visitWhileLoop(WhileLoopTree tree, Void nothing) {
        never("9", tree);
        return super.visitWhileLoop(tree, nothing);
    }

    @Override
    public Void visitDoWhileLoop(DoWhileLoopTree tree, Void nothing) {
        never("9", tree);
        return super.visitDoWhileLoop(tree, nothing);
    }

    // ---- what is not there at all

    @Override
    public Void visitTry(TryTree tree, Void nothing) {
        never("6", tree);
        return null;
    }

    @Override
    public Void visitSynchronized(SynchronizedTree tree, Void nothing) {
        never("6", tree);
        return null;
    }

    @Override
    public Void visitAssert(AssertTree tree, Void nothing) {
        never("6", tree);
        return null;
    }

    @Override
    public Void visitLambdaExpression(LambdaExpressionTree tree, Void nothing) {
        never("2", tree);
        return null;
    }

    @Override
    public Void visitMemberReference(MemberReferenceTree tree, Void nothing) {
        never("2", tree);
        return null;
    }
}
