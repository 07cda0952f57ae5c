import com.sun.source.tree.AnnotationTree;
import com.sun.source.tree.ArrayAccessTree;
import com.sun.source.tree.AssertTree;
import com.sun.source.tree.AssignmentTree;
import com.sun.source.tree.BinaryTree;
import com.sun.source.tree.BlockTree;
import com.sun.source.tree.ClassTree;
import com.sun.source.tree.CompilationUnitTree;
import com.sun.source.tree.CompoundAssignmentTree;
import com.sun.source.tree.DoWhileLoopTree;
import com.sun.source.tree.ExpressionTree;
import com.sun.source.tree.ForLoopTree;
import com.sun.source.tree.ImportTree;
import com.sun.source.tree.InstanceOfTree;
import com.sun.source.tree.LambdaExpressionTree;
import com.sun.source.tree.LiteralTree;
import com.sun.source.tree.MemberReferenceTree;
import com.sun.source.tree.MethodInvocationTree;
import com.sun.source.tree.MethodTree;
import com.sun.source.tree.NewArrayTree;
import com.sun.source.tree.NewClassTree;
import com.sun.source.tree.ParenthesizedTree;
import com.sun.source.tree.SynchronizedTree;
import com.sun.source.tree.ThrowTree;
import com.sun.source.tree.Tree;
import com.sun.source.tree.TryTree;
import com.sun.source.tree.TypeCastTree;
import com.sun.source.tree.VariableTree;
import com.sun.source.tree.WhileLoopTree;
import com.sun.source.util.JavacTask;
import com.sun.source.util.TreePathScanner;
import com.sun.source.util.Trees;
import java.io.File;
import java.util.HashMap;
import java.util.LinkedHashSet;
import java.util.List;
import java.util.Map;
import java.util.Set;
import javax.lang.model.element.Element;
import javax.lang.model.element.ElementKind;
import javax.lang.model.element.Modifier;
import javax.lang.model.type.TypeKind;
import javax.tools.JavaCompiler;
import javax.tools.StandardJavaFileManager;
import javax.tools.ToolProvider;

/**
 * The form of the program: ../shared/LANGUAGE.md, as far as the class uses what its rules allow (what it does not use,
 * as try, while or lists, is refused here; where it comes to use it, this test grows with it). The source's path is
 * the argument.
 */
public final class FormTest extends TreePathScanner<Void, Void> {
    private static final int MOST_DEEP = 8;
    private static final int MOST_LINES = 60;
    private static final int MOST_PARAMETERS = 7;
    private static final int MOST_CLASSES = 12;
    private static final int MOST_FIELDS = 20;
    private static final Set<String> EXCEPTIONS = Set.of("IllegalArgumentException", "IndexOutOfBoundsException");
    private static final Set<String> LIBRARY = Set.of("java.lang.Integer.bitCount(int)");

    private final Trees trees;
    private final CompilationUnitTree unit;
    private final Map<String, Set<String>> calls = new HashMap<>();
    private String method = "";
    private boolean inConstructor;
    private int classes;

    private FormTest(Trees trees, CompilationUnitTree unit) {
        this.trees = trees;
        this.unit = unit;
    }

    public static void main(String[] args) throws Exception {
        JavaCompiler compiler = ToolProvider.getSystemJavaCompiler();
        StandardJavaFileManager files = compiler.getStandardFileManager(null, null, null);
        JavacTask task = (JavacTask) compiler.getTask(null, files, null, null, null,
                files.getJavaFileObjects(new File(args[0])));
        CompilationUnitTree unit = task.parse().iterator().next();
        task.analyze();
        FormTest form = new FormTest(Trees.instance(task), unit);
        form.scan(unit, null);
        form.whole();
        Checks.finish();
    }

    private void whole() {
        Checks.due("a package line", unit.getPackageName() == null ? 0 : 1, 0);
        Checks.due("one class outside", unit.getTypeDecls().size(), 1);
        atMost("classes", classes, MOST_CLASSES);
        for (String one : List.copyOf(calls.keySet())) {
            atMost("calls deep from " + one, depth(one, 0), MOST_DEEP);
        }
    }

    private static void atMost(String what, long n, long most) {
        Checks.due(what + " are " + n + ", at most " + most, n <= most ? 1 : 0, 1);
    }

    private void isFound(String what, Tree at) {
        Checks.due(what + " in line " + line(at) + ": " + at, 1, 0);
    }

    private void holds(String what, Tree at, boolean so) {
        Checks.due(what + " in line " + line(at), so ? 1 : 0, 1);
    }

    private long line(Tree at) {
        return unit.getLineMap().getLineNumber(trees.getSourcePositions().getStartPosition(unit, at));
    }

    private long lastLine(Tree at) {
        return unit.getLineMap().getLineNumber(trees.getSourcePositions().getEndPosition(unit, at));
    }

    private Element element() {
        return trees.getElement(getCurrentPath());
    }

    /** How many methods stand open at once from this one on; recursion shows as far too many. */
    private int depth(String from, int open) {
        if (open > 2 * MOST_DEEP) {
            return 1;
        }
        int most = 0;
        for (String to : calls.getOrDefault(from, Set.of())) {
            most = Math.max(most, depth(to, open + 1));
        }
        return most + 1;
    }

    private static boolean isOwn(Element e) {
        Element outermost = e;
        while (outermost.getEnclosingElement().getKind() != ElementKind.PACKAGE) {
            outermost = outermost.getEnclosingElement();
        }
        return outermost.getSimpleName().contentEquals("MachineCore");
    }

    private static String name(Element e) {
        return e.getEnclosingElement() + "." + e;
    }

    // Rules 1 to 3 and 11: classes, their fields and types.

    @Override
    public Void visitClass(ClassTree c, Void none) {
        classes++;
        boolean outside = c.getSimpleName().contentEquals("MachineCore");
        Set<Modifier> how = c.getModifiers().getFlags();
        holds("class " + c.getSimpleName(), c, how.equals(outside ? Set.of(Modifier.PUBLIC, Modifier.FINAL)
                : Set.of(Modifier.PRIVATE, Modifier.STATIC, Modifier.FINAL)));
        holds("a class within the outer one", c, c.getKind() == Tree.Kind.CLASS && c.getTypeParameters().isEmpty()
                && c.getExtendsClause() == null && c.getImplementsClause().isEmpty());
        int fields = 0;
        for (Tree member : c.getMembers()) {
            if (member instanceof VariableTree v && !v.getModifiers().getFlags().contains(Modifier.STATIC)) {
                fields++;
            }
            if (member instanceof BlockTree) {
                isFound("an initialiser block", member);
            }
        }
        atMost("fields of " + c.getSimpleName(), fields, MOST_FIELDS);
        return super.visitClass(c, none);
    }

    @Override
    public Void visitVariable(VariableTree v, Void none) {
        String type = v.getType().toString();
        Element e = element();
        boolean isField = e.getKind() == ElementKind.FIELD;
        boolean isStatic = e.getModifiers().contains(Modifier.STATIC);
        boolean isNumbers = type.equals("int[]") || type.equals("byte[]");
        boolean isOwn = Set.of("Memory", "Registers", "Arithmetic", "Code", "Processor").contains(type);
        holds("type " + type, v, Set.of("int", "long", "boolean").contains(type) || isNumbers || isOwn);
        if (isField && isStatic) {
            boolean written = type.equals("int[]") && v.getInitializer() instanceof NewArrayTree
                    && ((NewArrayTree) v.getInitializer()).getInitializers() != null;
            holds("a static field is a constant", v, e.getModifiers().contains(Modifier.FINAL)
                    && (type.equals("int") || written));
        }
        return super.visitVariable(v, none);
    }

    // Rules 1, 6 and 11: methods.

    @Override
    public Void visitMethod(MethodTree m, Void none) {
        String before = method;
        boolean constructedBefore = inConstructor;
        method = name(element());
        inConstructor = m.getReturnType() == null;
        calls.computeIfAbsent(method, k -> new LinkedHashSet<>());
        atMost("parameters of " + method, m.getParameters().size(), MOST_PARAMETERS);
        atMost("lines of " + method, lastLine(m) - line(m) + 1, MOST_LINES);
        super.visitMethod(m, none);
        method = before;
        inConstructor = constructedBefore;
        return null;
    }

    @Override
    public Void visitMethodInvocation(MethodInvocationTree call, Void none) {
        Element to = element();
        if (to.getKind() == ElementKind.CONSTRUCTOR) {
            return super.visitMethodInvocation(call, none);
        }
        if (isOwn(to)) {
            holds(method + " calls no face", call, !to.getModifiers().contains(Modifier.PUBLIC));
            holds("a constructor calls nothing", call, !inConstructor);
        } else {
            holds("the library has " + name(to), call, LIBRARY.contains(name(to)));
        }
        calls.computeIfAbsent(method, k -> new LinkedHashSet<>()).add(name(to));
        return super.visitMethodInvocation(call, none);
    }

    // Rules 6 and 12: what is thrown, and what is made.

    @Override
    public Void visitThrow(ThrowTree t, Void none) {
        holds("no throw in a constructor", t, !inConstructor);
        boolean plain = t.getExpression() instanceof NewClassTree made
                && EXCEPTIONS.contains(made.getIdentifier().toString()) && made.getArguments().size() == 1
                && made.getArguments().get(0) instanceof LiteralTree;
        holds("throw new E(\"a written text\")", t, plain);
        return super.visitThrow(t, none);
    }

    @Override
    public Void visitNewClass(NewClassTree made, Void none) {
        boolean thrown = getCurrentPath().getParentPath().getLeaf() instanceof ThrowTree;
        holds("no call makes an object", made, thrown || method.isEmpty() || inConstructor);
        holds("no anonymous class", made, made.getClassBody() == null);
        return super.visitNewClass(made, none);
    }

    @Override
    public Void visitNewArray(NewArrayTree made, Void none) {
        holds("no call makes an array", made, method.isEmpty());
        holds("of one dimension, of a length that is written", made, made.getDimensions().size() <= 1);
        return super.visitNewArray(made, none);
    }

    // Rule 7: what is looked at before it is used.

    @Override
    public Void visitArrayAccess(ArrayAccessTree a, Void none) {
        ExpressionTree index = a.getIndex();
        boolean masked = index.getKind() == Tree.Kind.AND;
        boolean maskedBefore = index.toString().equals("upper");
        holds("an index is masked: " + a, a, masked || maskedBefore);
        return super.visitArrayAccess(a, none);
    }

    @Override
    public Void visitTypeCast(TypeCastTree cast, Void none) {
        holds("a cast to numbers alone", cast, Set.of("int", "long", "byte", "short").contains(cast.getType().toString()));
        return super.visitTypeCast(cast, none);
    }

    /** Divisions stand behind a test of the divisor in the very same method; texts are not joined by +. */
    @Override
    public Void visitBinary(BinaryTree b, Void none) {
        if (b.getKind() == Tree.Kind.DIVIDE || b.getKind() == Tree.Kind.REMAINDER) {
            String tested = "if (" + b.getRightOperand() + " == 0)";
            Tree body = getCurrentPath().getLeaf();
            for (Tree t : getCurrentPath()) {
                body = t instanceof MethodTree ? t : body;
                if (t instanceof MethodTree) {
                    break;
                }
            }
            String text = body.toString();
            int first = text.indexOf(tested);
            holds("a divisor is looked at: " + b, b, first >= 0 && first < text.indexOf(b.toString()));
        }
        if (b.getKind() == Tree.Kind.PLUS) {
            holds("numbers alone are added", b, trees.getTypeMirror(getCurrentPath()).getKind() != TypeKind.DECLARED);
        }
        return super.visitBinary(b, none);
    }

    // Rule 9: each loop counts up to a bound that stands.

    @Override
    public Void visitForLoop(ForLoopTree f, Void none) {
        ExpressionTree condition = f.getCondition();
        while (condition instanceof ParenthesizedTree p) {
            condition = p.getExpression();
        }
        String counter = f.getInitializer().size() == 1 ? ((VariableTree) f.getInitializer().get(0)).getName().toString()
                : "";
        boolean counts = f.getUpdate().size() == 1 && f.getUpdate().get(0).toString().equals(counter + "++;");
        holds("a loop counts", f, counts && condition != null && condition.toString().startsWith(counter + " < "));
        return super.visitForLoop(f, none);
    }

    @Override
    public Void visitAssignment(AssignmentTree a, Void none) {
        holds("no constant array is changed", a, !a.getVariable().toString().startsWith("FORMS"));
        return super.visitAssignment(a, none);
    }

    @Override
    public Void visitCompoundAssignment(CompoundAssignmentTree a, Void none) {
        boolean divides = a.getKind() == Tree.Kind.DIVIDE_ASSIGNMENT || a.getKind() == Tree.Kind.REMAINDER_ASSIGNMENT;
        holds("no division by assignment", a, !divides);
        return super.visitCompoundAssignment(a, none);
    }

    // What the class does without.

    @Override
    public Void visitImport(ImportTree t, Void none) {
        isFound("an import", t);
        return null;
    }

    @Override
    public Void visitAnnotation(AnnotationTree t, Void none) {
        isFound("an annotation", t);
        return null;
    }

    @Override
    public Void visitLambdaExpression(LambdaExpressionTree t, Void none) {
        isFound("a lambda", t);
        return null;
    }

    @Override
    public Void visitMemberReference(MemberReferenceTree t, Void none) {
        isFound("a method reference", t);
        return null;
    }

    @Override
    public Void visitTry(TryTree t, Void none) {
        isFound("a try", t);
        return null;
    }

    @Override
    public Void visitSynchronized(SynchronizedTree t, Void none) {
        isFound("a synchronized", t);
        return null;
    }

    @Override
    public Void visitAssert(AssertTree t, Void none) {
        isFound("an assert", t);
        return null;
    }

    @Override
    public Void visitInstanceOf(InstanceOfTree t, Void none) {
        isFound("an instanceof", t);
        return null;
    }

    @Override
    public Void visitWhileLoop(WhileLoopTree t, Void none) {
        isFound("a while", t);
        return null;
    }

    @Override
    public Void visitDoWhileLoop(DoWhileLoopTree t, Void none) {
        isFound("a do", t);
        return null;
    }
}
