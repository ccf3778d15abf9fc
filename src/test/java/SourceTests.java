import com.sun.source.tree.AnnotationTree;
import com.sun.source.tree.ArrayAccessTree;
import com.sun.source.tree.AssignmentTree;
import com.sun.source.tree.BinaryTree;
import com.sun.source.tree.BlockTree;
import com.sun.source.tree.ClassTree;
import com.sun.source.tree.CompilationUnitTree;
import com.sun.source.tree.CompoundAssignmentTree;
import com.sun.source.tree.DoWhileLoopTree;
import com.sun.source.tree.EnhancedForLoopTree;
import com.sun.source.tree.ExpressionTree;
import com.sun.source.tree.ForLoopTree;
import com.sun.source.tree.ImportTree;
import com.sun.source.tree.MethodInvocationTree;
import com.sun.source.tree.MethodTree;
import com.sun.source.tree.NewArrayTree;
import com.sun.source.tree.NewClassTree;
import com.sun.source.tree.Tree;
import com.sun.source.tree.Tree.Kind;
import com.sun.source.tree.TypeCastTree;
import com.sun.source.tree.UnaryTree;
import com.sun.source.tree.VariableTree;
import com.sun.source.tree.WhileLoopTree;
import com.sun.source.util.JavacTask;
import com.sun.source.util.TreePath;
import com.sun.source.util.TreePathScanner;
import com.sun.source.util.Trees;
import java.nio.file.Files;
import java.nio.file.Path;
import java.util.EnumSet;
import java.util.List;
import java.util.Map;
import java.util.Set;
import java.util.TreeMap;
import java.util.TreeSet;
import javax.lang.model.element.Element;
import javax.lang.model.element.ElementKind;
import javax.lang.model.element.Modifier;
import javax.lang.model.element.VariableElement;
import javax.lang.model.type.ArrayType;
import javax.lang.model.type.TypeKind;
import javax.lang.model.type.TypeMirror;
import javax.tools.JavaCompiler;
import javax.tools.StandardJavaFileManager;
import javax.tools.ToolProvider;

/**
 * ../shared/LANGUAGE.md, rule by rule, on the tree that javac makes of the source (LanguageTests has the face). What
 * the rules allow but the program does without (texts, lists, doubles, generics) is refused here too: who comes to
 * need it widens this test by what the rules say of it.
 */
public final class SourceTests extends TreePathScanner<Void, Void> {
    private static final String OWN = "CrossroadsChoose";
    private static final int MOST_CLASSES = 12, MOST_LINES = 60, MOST_PARAMETERS = 7, MOST_DEEP = 8, MOST_FIELDS = 20;
    private static final Set<String> LIBRARY = Set.of("java.lang.Math.max", "java.lang.Math.min",
        "java.lang.Integer.bitCount", "java.lang.System.arraycopy", "java.util.Arrays.fill", "java.lang.Object.<init>");
    private static final Set<Kind> FORBIDDEN = EnumSet.of(Kind.THROW, Kind.TRY, Kind.CATCH, Kind.SYNCHRONIZED,
        Kind.ASSERT, Kind.LAMBDA_EXPRESSION, Kind.MEMBER_REFERENCE, Kind.INSTANCE_OF, Kind.SWITCH_EXPRESSION,
        Kind.YIELD, Kind.STRING_LITERAL, Kind.FLOAT_LITERAL, Kind.DOUBLE_LITERAL, Kind.PARAMETERIZED_TYPE);
    /** Each carries its depth as an argument, and refuses what would go deeper. */
    private static final Set<String> RECURSIVE = Set.of("CrossroadsChoose.reaches", "Bodies.work", "Tape.readJoined",
        "Tape.readOperand", "Tape.readBracket", "Tape.readSigned");
    /** Each tests its divisor ahead of dividing. */
    private static final Set<String> DIVIDING = Set.of("Law.joined", "Votes.sharedDivisor", "Votes.powerOf");

    private final CompilationUnitTree unit;
    private final Trees trees;
    private final Map<String, Set<String>> calls = new TreeMap<>();
    private String inClass = "", inMethod = "";
    private int classes;

    private SourceTests(CompilationUnitTree unit, Trees trees) {
        this.unit = unit;
        this.trees = trees;
    }

    public static void main(String[] args) throws Exception {
        Path path = Path.of(args.length > 0 ? args[0] : "src/main/java/CrossroadsChoose.java");
        Due.says("LANGUAGE.md 4: constants whose signs are 1 to 127");
        for (byte b : Files.readAllBytes(path)) {
            due("a sign of the source", b > 0);
        }
        Due.says("LANGUAGE.md 1 to 13, on the tree");
        JavaCompiler javac = ToolProvider.getSystemJavaCompiler();
        try (StandardJavaFileManager files = javac.getStandardFileManager(null, null, null)) {
            JavacTask task = (JavacTask) javac.getTask(null, files, null, List.of("--release", "17"), null,
                files.getJavaFileObjects(path));
            CompilationUnitTree unit = task.parse().iterator().next();
            task.analyze();
            SourceTests tests = new SourceTests(unit, Trees.instance(task));
            tests.scan(unit, null);
            tests.ended();
        }
        Due.end("SourceTests");
    }

    private static void due(String what, boolean holds) {
        Due.due(what, holds ? 1 : 0, 1);
    }

    private void rule(int number, String what, Tree at, boolean holds) {
        long line = unit.getLineMap().getLineNumber(trees.getSourcePositions().getStartPosition(unit, at));
        due("LANGUAGE.md " + number + ": " + what + ", line " + line, holds);
    }

    private TypeMirror typeOf(Tree tree) {
        return trees.getTypeMirror(new TreePath(getCurrentPath(), tree));
    }

    private Element elementOf(Tree tree) {
        return trees.getElement(new TreePath(getCurrentPath(), tree));
    }

    private boolean isField() {
        return getCurrentPath().getParentPath().getLeaf() instanceof ClassTree;
    }

    private static boolean isOwn(TypeMirror type) {
        String name = type.toString();
        return name.equals(OWN) || name.startsWith(OWN + ".");
    }

    private static boolean isPlain(TypeMirror type) {
        return type.getKind().isPrimitive() && type.getKind() != TypeKind.FLOAT && type.getKind() != TypeKind.DOUBLE;
    }

    private static boolean isAllowed(TypeMirror type) {
        if (type.getKind() != TypeKind.ARRAY) {
            return type.getKind() == TypeKind.VOID || isPlain(type) || isOwn(type);
        }
        TypeMirror of = ((ArrayType) type).getComponentType();
        return isPlain(of) || isOwn(of) || of.getKind() == TypeKind.ARRAY && isPlain(((ArrayType) of).getComponentType());
    }

    @Override
    public Void scan(Tree tree, Void none) {
        if (tree != null) {
            due("LANGUAGE.md 2, 3, 6: no " + tree.getKind() + " in " + inClass + "." + inMethod, !FORBIDDEN.contains(tree.getKind()));
        }
        return super.scan(tree, none);
    }

    @Override
    public Void visitImport(ImportTree tree, Void none) {
        rule(4, "import", tree, tree.getQualifiedIdentifier().toString().equals("java.util.Arrays"));
        return super.visitImport(tree, none);
    }

    @Override
    public Void visitAnnotation(AnnotationTree tree, Void none) {
        rule(4, "no annotation", tree, false);
        return super.visitAnnotation(tree, none);
    }

    @Override
    public Void visitClass(ClassTree tree, Void none) {
        String before = inClass;
        Set<Modifier> with = tree.getModifiers().getFlags();
        boolean outer = before.isEmpty();
        inClass = tree.getSimpleName().toString();
        classes++;
        rule(1, "the class's name", tree, outer == inClass.equals(OWN));
        rule(2, "static", tree, outer || with.contains(Modifier.STATIC));
        rule(2, "a plain class above none", tree, tree.getKind() == Kind.CLASS && tree.getExtendsClause() == null
            && tree.getImplementsClause().isEmpty() && tree.getTypeParameters().isEmpty());
        int fields = 0;
        for (Tree member : tree.getMembers()) {
            rule(5, "no initialiser block", member, !(member instanceof BlockTree));
            boolean isField = member instanceof VariableTree;
            fields += isField && !((VariableTree) member).getModifiers().getFlags().contains(Modifier.STATIC) ? 1 : 0;
        }
        rule(11, "fields of " + inClass, tree, fields <= MOST_FIELDS);
        super.visitClass(tree, none);
        inClass = before;
        return null;
    }

    @Override
    public Void visitMethod(MethodTree tree, Void none) {
        String before = inMethod;
        inMethod = tree.getName().toString();
        calls.computeIfAbsent(inClass + "." + inMethod, k -> new TreeSet<>());
        long from = trees.getSourcePositions().getStartPosition(unit, tree);
        long to = trees.getSourcePositions().getEndPosition(unit, tree);
        long lines = to < 0 ? 1 : unit.getLineMap().getLineNumber(to) - unit.getLineMap().getLineNumber(from) + 1;
        rule(11, "lines of " + inMethod, tree, lines <= MOST_LINES);
        rule(11, "parameters of " + inMethod, tree, tree.getParameters().size() <= MOST_PARAMETERS);
        rule(3, "what " + inMethod + " answers", tree, tree.getReturnType() == null || isAllowed(typeOf(tree.getReturnType())));
        rule(6, "no " + inMethod, tree, !Set.of("equals", "hashCode", "toString", "finalize").contains(inMethod));
        super.visitMethod(tree, none);
        inMethod = before;
        return null;
    }

    @Override
    public Void visitVariable(VariableTree tree, Void none) {
        rule(3, "type of " + tree.getName(), tree, isAllowed(typeOf(tree)));
        Set<Modifier> with = tree.getModifiers().getFlags();
        if (isField() && with.contains(Modifier.STATIC)) {
            rule(5, tree.getName() + " is final", tree, with.contains(Modifier.FINAL));
            boolean written = tree.getInitializer() instanceof NewArrayTree
                && ((NewArrayTree) tree.getInitializer()).getDimensions().isEmpty();
            boolean constant = ((VariableElement) elementOf(tree)).getConstantValue() != null;
            rule(5, tree.getName() + " is written out", tree, written || constant);
        }
        return super.visitVariable(tree, none);
    }

    private void notChanged(ExpressionTree changed) {
        if (!(changed instanceof ArrayAccessTree)) {
            return;
        }
        Element of = elementOf(((ArrayAccessTree) changed).getExpression());
        boolean isStatic = of != null && of.getKind() == ElementKind.FIELD && of.getModifiers().contains(Modifier.STATIC);
        rule(5, "a static row is never changed", changed, !isStatic);
    }

    @Override
    public Void visitAssignment(AssignmentTree tree, Void none) {
        notChanged(tree.getVariable());
        return super.visitAssignment(tree, none);
    }

    @Override
    public Void visitCompoundAssignment(CompoundAssignmentTree tree, Void none) {
        notChanged(tree.getVariable());
        boolean divides = tree.getKind() == Kind.DIVIDE_ASSIGNMENT || tree.getKind() == Kind.REMAINDER_ASSIGNMENT;
        rule(7, "a divisor", tree, !divides);
        return super.visitCompoundAssignment(tree, none);
    }

    @Override
    public Void visitUnary(UnaryTree tree, Void none) {
        notChanged(tree.getExpression());
        return super.visitUnary(tree, none);
    }

    @Override
    public Void visitBinary(BinaryTree tree, Void none) {
        Kind kind = tree.getKind();
        if (kind == Kind.DIVIDE || kind == Kind.REMAINDER) {
            Element by = elementOf(tree.getRightOperand());
            Object constant = by instanceof VariableElement ? ((VariableElement) by).getConstantValue() : null;
            boolean safe = tree.getRightOperand().getKind() == Kind.INT_LITERAL && !tree.getRightOperand().toString().equals("0")
                || constant instanceof Integer && (Integer) constant != 0;
            rule(7, "a divisor", tree, safe || DIVIDING.contains(inClass + "." + inMethod));
        }
        return super.visitBinary(tree, none);
    }

    @Override
    public Void visitTypeCast(TypeCastTree tree, Void none) {
        rule(6, "a cast of numbers alone", tree, isPlain(typeOf(tree.getType())));
        return super.visitTypeCast(tree, none);
    }

    private boolean isBounded(ExpressionTree condition) {
        return condition != null && condition.toString().matches("(?s).*[<>].*");
    }

    @Override
    public Void visitForLoop(ForLoopTree tree, Void none) {
        rule(9, "a loop with a bound", tree, isBounded(tree.getCondition()) && tree.getUpdate().size() > 0);
        return super.visitForLoop(tree, none);
    }

    @Override
    public Void visitWhileLoop(WhileLoopTree tree, Void none) {
        rule(9, "a loop with a bound", tree, isBounded(tree.getCondition()) && tree.getStatement().toString().contains("++"));
        return super.visitWhileLoop(tree, none);
    }

    @Override
    public Void visitDoWhileLoop(DoWhileLoopTree tree, Void none) {
        rule(9, "no do", tree, false);
        return super.visitDoWhileLoop(tree, none);
    }

    @Override
    public Void visitEnhancedForLoop(EnhancedForLoopTree tree, Void none) {
        rule(9, "for over an array", tree, typeOf(tree.getExpression()).getKind() == TypeKind.ARRAY);
        return super.visitEnhancedForLoop(tree, none);
    }

    private boolean isMadeOnce() {
        return inMethod.isEmpty() || inMethod.equals("<init>");
    }

    @Override
    public Void visitNewClass(NewClassTree tree, Void none) {
        rule(2, "no anonymous class", tree, tree.getClassBody() == null);
        rule(3, "an own class", tree, isOwn(typeOf(tree)));
        rule(12, "made in constructors alone", tree, isMadeOnce());
        return super.visitNewClass(tree, none);
    }

    @Override
    public Void visitNewArray(NewArrayTree tree, Void none) {
        rule(3, "a row", tree, isAllowed(typeOf(tree)));
        rule(12, "made in constructors alone", tree, isMadeOnce());
        return super.visitNewArray(tree, none);
    }

    @Override
    public Void visitMethodInvocation(MethodInvocationTree tree, Void none) {
        Element called = elementOf(tree.getMethodSelect());
        Element of = called.getEnclosingElement();
        if (isOwn(of.asType())) {
            String name = of.getSimpleName() + "." + called.getSimpleName();
            if (inMethod.equals("<init>")) {
                rule(12, "a constructor calls no method of its own", tree, called.getSimpleName().contentEquals("<init>"));
            }
            calls.computeIfAbsent(inClass + "." + inMethod, k -> new TreeSet<>()).add(name);
        } else {
            rule(4, "library: " + of + "." + called.getSimpleName(), tree, LIBRARY.contains(of + "." + called.getSimpleName()));
        }
        return super.visitMethodInvocation(tree, none);
    }

    private void ended() {
        Due.says("LANGUAGE.md 11: some twelve classes");
        due("classes " + classes, classes <= MOST_CLASSES);
        Due.says("LANGUAGE.md 8: which methods call themselves");
        for (String method : calls.keySet()) {
            due(method + " calls itself", reaches(method, method, new TreeSet<>()) == RECURSIVE.contains(method));
        }
        Due.says("LANGUAGE.md 11: calls that are no recursion go at most eight deep");
        for (String method : calls.keySet()) {
            int deep = deep(method, Set.of());
            due(method + " goes " + deep + " deep", deep <= MOST_DEEP);
        }
    }

    private boolean reaches(String from, String to, Set<String> seen) {
        for (String next : calls.getOrDefault(from, Set.of())) {
            if (next.equals(to) || seen.add(next) && reaches(next, to, seen)) {
                return true;
            }
        }
        return false;
    }

    /** The longest way on that meets no method twice. */
    private int deep(String from, Set<String> ahead) {
        int deepest = 0;
        Set<String> met = new TreeSet<>(ahead);
        met.add(from);
        for (String next : calls.getOrDefault(from, Set.of())) {
            if (!met.contains(next)) {
                deepest = Math.max(deepest, deep(next, met));
            }
        }
        return deepest + 1;
    }
}
