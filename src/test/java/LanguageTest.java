import com.sun.source.tree.AssertTree;
import com.sun.source.tree.BinaryTree;
import com.sun.source.tree.BlockTree;
import com.sun.source.tree.ClassTree;
import com.sun.source.tree.CompilationUnitTree;
import com.sun.source.tree.CompoundAssignmentTree;
import com.sun.source.tree.DoWhileLoopTree;
import com.sun.source.tree.ExpressionTree;
import com.sun.source.tree.ForLoopTree;
import com.sun.source.tree.ImportTree;
import com.sun.source.tree.LambdaExpressionTree;
import com.sun.source.tree.LiteralTree;
import com.sun.source.tree.MemberReferenceTree;
import com.sun.source.tree.MethodInvocationTree;
import com.sun.source.tree.MethodTree;
import com.sun.source.tree.NewArrayTree;
import com.sun.source.tree.NewClassTree;
import com.sun.source.tree.SwitchExpressionTree;
import com.sun.source.tree.SynchronizedTree;
import com.sun.source.tree.ThrowTree;
import com.sun.source.tree.Tree;
import com.sun.source.tree.TryTree;
import com.sun.source.tree.TypeCastTree;
import com.sun.source.tree.VariableTree;
import com.sun.source.tree.WhileLoopTree;
import com.sun.source.util.JavacTask;
import com.sun.source.util.TreePath;
import com.sun.source.util.TreePathScanner;
import com.sun.source.util.Trees;
import java.io.IOException;
import java.nio.file.Path;
import java.util.ArrayDeque;
import java.util.Deque;
import java.util.List;
import java.util.Map;
import java.util.Set;
import java.util.TreeMap;
import java.util.TreeSet;
import javax.lang.model.element.Element;
import javax.lang.model.element.ElementKind;
import javax.lang.model.element.Modifier;
import javax.lang.model.element.TypeElement;
import javax.lang.model.type.ArrayType;
import javax.lang.model.type.TypeKind;
import javax.lang.model.type.TypeMirror;
import javax.tools.JavaCompiler;
import javax.tools.StandardJavaFileManager;
import javax.tools.ToolProvider;

/** The rules of LANGUAGE.md, looked for in the tree that javac makes of the source; each message begins with the rule. */
public final class LanguageTest extends TreePathScanner<Void, Void> {
    private static final Path SOURCE = Path.of("src/main/java/ForgetBread.java");
    private static final int MOST_LINES = 60;
    private static final int MOST_PARAMETERS = 7;
    private static final int MOST_DEEP = 8;
    private static final int MOST_CLASSES = 12;
    private static final int MOST_FIELDS = 20;
    /** What the class may call of the library: a part of rule 4. */
    private static final Set<String> LIBRARY = Set.of("String.length", "String.charAt", "String.isEmpty", "String.equals",
            "Integer.bitCount", "Math.max", "Math.min", "Math.abs", "Math.floorMod", "Math.floorDiv", "System.arraycopy",
            "Arrays.fill", "Arrays.copyOf", "Arrays.copyOfRange");
    private static final Set<String> OBJECTS = Set.of("equals", "hashCode", "toString", "clone", "finalize", "compareTo");

    private final CompilationUnitTree unit;
    private final Trees trees;
    /** Of each method (or constructor) those that it calls, the library's, too. */
    private final Map<String, Set<String>> calls = new TreeMap<>();
    private final Deque<String> within = new ArrayDeque<>();
    private final Set<String> open = new TreeSet<>();
    private final Set<String> hidden = new TreeSet<>();
    private int classes = 0;
    private int methods = 0;

    private LanguageTest(CompilationUnitTree unit, Trees trees) {
        this.unit = unit;
        this.trees = trees;
    }

    public static void main(String[] args) throws IOException {
        JavaCompiler compiler = ToolProvider.getSystemJavaCompiler();
        if (compiler == null) {
            throw new IllegalStateException("there is no javac: the rules can't be looked at");
        }
        try (StandardJavaFileManager files = compiler.getStandardFileManager(null, null, null)) {
            JavacTask task = (JavacTask) compiler.getTask(null, files, null, List.of("-proc:none"), null,
                    files.getJavaFileObjects(args.length == 0 ? SOURCE : Path.of(args[0])));
            CompilationUnitTree unit = task.parse().iterator().next();
            task.analyze();
            LanguageTest test = new LanguageTest(unit, Trees.instance(task));
            test.signs();
            test.scan(unit, null);
            test.names();
            test.depths();
        }
        Kit.close();
    }

    /** The line that is looked at, and its rule. */
    private void rule(int rule, Tree tree, String what, boolean kept) {
        long line = unit.getLineMap().getLineNumber(trees.getSourcePositions().getStartPosition(unit, tree));
        Kit.due("rule " + rule + ", line " + line + ": " + what, kept, true);
    }

    private void never(int rule, Tree tree, String what) {
        rule(rule, tree, what, false);
    }

    private void signs() throws IOException {
        String source = unit.getSourceFile().getCharContent(false).toString();
        for (int i = 0; i < source.length(); i++) {
            if (source.charAt(i) > 126) {
                Kit.due("rule 4: the sign at " + i, source.charAt(i), ' ');
            }
        }
        Kit.due("rule 1: no package line", unit.getPackage() == null, true);
        Kit.due("rule 1: one class alone", unit.getTypeDecls().size(), 1);
    }

    // ---- what is declared ----

    @Override
    public Void visitImport(ImportTree tree, Void none) {
        rule(4, tree, "an import", tree.getQualifiedIdentifier().toString().matches(
                "java\\.util\\.(Arrays|ArrayList|List|Iterator)"));
        return null;
    }

    @Override
    public Void visitClass(ClassTree tree, Void none) {
        String name = tree.getSimpleName().toString();
        Set<Modifier> marks = tree.getModifiers().getFlags();
        boolean inside = getCurrentPath().getParentPath().getLeaf() instanceof ClassTree;
        classes++;
        rule(11, tree, "more classes than " + MOST_CLASSES, classes <= MOST_CLASSES);
        rule(2, tree, name + " is local or has no name", !name.isEmpty()
                && (inside || getCurrentPath().getParentPath().getLeaf() instanceof CompilationUnitTree));
        if (inside) {
            boolean isStatic = marks.contains(Modifier.STATIC) || tree.getKind() != Tree.Kind.CLASS;
            rule(2, tree, name + " is static", isStatic);
            rule(1, tree, name + " is open", !marks.contains(Modifier.PUBLIC) && !marks.contains(Modifier.PROTECTED));
        } else {
            rule(1, tree, name + " is public and final", marks.contains(Modifier.PUBLIC) && marks.contains(Modifier.FINAL));
        }
        int fields = 0;
        for (Tree member : tree.getMembers()) {
            rule(5, member, "a block of the class", !(member instanceof BlockTree));
            boolean isField = member instanceof VariableTree;
            fields += isField && !((VariableTree) member).getModifiers().getFlags().contains(Modifier.STATIC) ? 1 : 0;
        }
        rule(11, tree, name + " has " + fields + " fields", fields <= MOST_FIELDS);
        return super.visitClass(tree, none);
    }

    @Override
    public Void visitMethod(MethodTree tree, Void none) {
        String name = nameOf(trees.getElement(getCurrentPath()));
        if (trees.getSourcePositions().getStartPosition(unit, tree) < 0
                || trees.getSourcePositions().getEndPosition(unit, tree) < 0) {
            return null;
        }
        methods++;
        boolean outer = getCurrentPath().getParentPath().getParentPath().getLeaf() instanceof CompilationUnitTree;
        boolean isOpen = tree.getModifiers().getFlags().contains(Modifier.PUBLIC);
        (isOpen ? open : hidden).add(tree.getName().toString());
        rule(1, tree, name + " is neither public nor private", !outer || isOpen
                || tree.getModifiers().getFlags().contains(Modifier.PRIVATE));
        rule(6, tree, name + " is one of each object's", !OBJECTS.contains(tree.getName().toString()));
        rule(6, tree, name + " throws", tree.getThrows().isEmpty());
        rule(11, tree, name + " takes too much", tree.getParameters().size() <= MOST_PARAMETERS);
        long first = unit.getLineMap().getLineNumber(trees.getSourcePositions().getStartPosition(unit, tree));
        long last = unit.getLineMap().getLineNumber(trees.getSourcePositions().getEndPosition(unit, tree));
        rule(11, tree, name + " has " + (last - first + 1) + " lines", last - first + 1 <= MOST_LINES);
        calls.putIfAbsent(name, new TreeSet<>());
        within.push(name);
        super.visitMethod(tree, none);
        within.pop();
        return null;
    }

    @Override
    public Void visitVariable(VariableTree tree, Void none) {
        Element element = trees.getElement(getCurrentPath());
        TypeMirror type = element.asType();
        boolean isConstant = element.getKind() == ElementKind.ENUM_CONSTANT;
        rule(3, tree, tree.getName() + " is of " + type, isOwn(type) || isNumber(type) || isText(type)
                || isArray(type) && isRow((ArrayType) type));
        if (element.getKind() == ElementKind.FIELD && element.getModifiers().contains(Modifier.STATIC)) {
            rule(5, tree, tree.getName() + " is final", element.getModifiers().contains(Modifier.FINAL));
            rule(5, tree, tree.getName() + " is a constant", type.getKind().isPrimitive() || isText(type));
        }
        boolean ofEnum = element.getEnclosingElement().getKind() == ElementKind.ENUM;
        if (ofEnum && !isConstant && element.getKind() == ElementKind.FIELD) {
            rule(2, tree, tree.getName() + " is of an enum", isText(type) || type.getKind() == TypeKind.INT
                    || type.getKind() == TypeKind.LONG || type.getKind() == TypeKind.BOOLEAN);
        }
        if (isConstant) {
            NewClassTree made = (NewClassTree) tree.getInitializer();
            rule(2, tree, tree.getName() + " has a body", made.getClassBody() == null);
            made.getArguments().forEach(argument -> scan(argument, null));
            return null;
        }
        return super.visitVariable(tree, none);
    }

    private static boolean isNumber(TypeMirror type) {
        return type.getKind().isPrimitive() && type.getKind() != TypeKind.DOUBLE && type.getKind() != TypeKind.FLOAT;
    }

    private static boolean isText(TypeMirror type) {
        return type.toString().equals("java.lang.String");
    }

    private static boolean isOwn(TypeMirror type) {
        return type.toString().startsWith("ForgetBread");
    }

    private static boolean isArray(TypeMirror type) {
        return type.getKind() == TypeKind.ARRAY;
    }

    private static boolean isRow(ArrayType type) {
        TypeMirror part = type.getComponentType();
        boolean isTable = isArray(part) && isNumber(((ArrayType) part).getComponentType());
        return isOwn(part) || isNumber(part) || isTable;
    }

    // ---- what is done ----

    @Override
    public Void visitMethodInvocation(MethodInvocationTree tree, Void none) {
        Element called = trees.getElement(getCurrentPath());
        String name = nameOf(called);
        boolean isOwn = isOwn(called.getEnclosingElement().asType());
        boolean isValues = isOwn && called.getSimpleName().contentEquals("values");
        boolean isSuper = called.getKind() == ElementKind.CONSTRUCTOR;
        rule(4, tree, name + " is called", isOwn || isSuper || LIBRARY.contains(name));
        rule(12, tree, name + " makes a copy", !isValues || within.isEmpty());
        if (!isSuper) {
            call(name);
        }
        return super.visitMethodInvocation(tree, none);
    }

    @Override
    public Void visitNewClass(NewClassTree tree, Void none) {
        Element made = trees.getElement(getCurrentPath());
        rule(4, tree, tree.getIdentifier() + " is made", isOwn(made.getEnclosingElement().asType()));
        rule(2, tree, tree.getIdentifier() + " has a body", tree.getClassBody() == null);
        rule(12, tree, "an object of a call", isInConstructor());
        call(nameOf(made));
        return super.visitNewClass(tree, none);
    }

    @Override
    public Void visitNewArray(NewArrayTree tree, Void none) {
        rule(12, tree, "an array of a call", isInConstructor());
        rule(3, tree, "a row of rows of rows", tree.getDimensions().size() <= 2);
        return super.visitNewArray(tree, none);
    }

    /** The class needs no object but those that its constructors make: so says its README. */
    private boolean isInConstructor() {
        return within.isEmpty() || within.peek().endsWith(".<init>");
    }

    private void call(String name) {
        TreePath path = getCurrentPath();
        while (path != null && !(path.getLeaf() instanceof ClassTree)) {
            path = path.getParentPath();
        }
        String maker = path == null ? "" : ((TypeElement) trees.getElement(path)).getSimpleName() + ".<init>";
        calls.computeIfAbsent(within.isEmpty() ? maker : within.peek(), from -> new TreeSet<>()).add(name);
    }

    private static String nameOf(Element method) {
        return method.getEnclosingElement().getSimpleName() + "." + method.getSimpleName();
    }

    @Override
    public Void visitBinary(BinaryTree tree, Void none) {
        boolean texts = isText(typeOf(tree.getLeftOperand())) || isText(typeOf(tree.getRightOperand()));
        rule(10, tree, "texts joined or compared by " + tree.getKind(), !texts);
        boolean divides = tree.getKind() == Tree.Kind.DIVIDE || tree.getKind() == Tree.Kind.REMAINDER;
        if (divides && !(tree.getRightOperand() instanceof LiteralTree)) {
            rule(7, tree, "a divisor is looked at in the same row", rowOf(tree).contains(
                    tree.getRightOperand() + " <= 0"));
        }
        return super.visitBinary(tree, none);
    }

    private String rowOf(Tree tree) {
        TreePath path = TreePath.getPath(unit, tree);
        while (path.getParentPath() != null && !(path.getParentPath().getLeaf() instanceof BlockTree)) {
            path = path.getParentPath();
        }
        return path.getLeaf().toString();
    }

    @Override
    public Void visitCompoundAssignment(CompoundAssignmentTree tree, Void none) {
        rule(10, tree, "texts joined", !isText(typeOf(tree.getVariable())));
        boolean divides = tree.getKind() == Tree.Kind.DIVIDE_ASSIGNMENT || tree.getKind() == Tree.Kind.REMAINDER_ASSIGNMENT;
        rule(7, tree, "a divisor that is not looked at", !divides);
        return super.visitCompoundAssignment(tree, none);
    }

    private TypeMirror typeOf(ExpressionTree tree) {
        return trees.getTypeMirror(TreePath.getPath(unit, tree));
    }

    @Override
    public Void visitTypeCast(TypeCastTree tree, Void none) {
        rule(6, tree, "a cast that can fail", trees.getTypeMirror(new TreePath(getCurrentPath(), tree.getType())).getKind()
                .isPrimitive() && typeOf(tree.getExpression()).getKind().isPrimitive());
        return super.visitTypeCast(tree, none);
    }

    @Override
    public Void visitForLoop(ForLoopTree tree, Void none) {
        rule(9, tree, "a loop without an end", tree.getCondition() != null && !(tree.getCondition() instanceof LiteralTree)
                && !tree.getUpdate().isEmpty());
        return super.visitForLoop(tree, none);
    }

    @Override
    public Void visitWhileLoop(WhileLoopTree tree, Void none) {
        rule(9, tree, "a loop without a counter", tree.getCondition().toString().matches("(?s).*\\w+ < [\\w.]+.*")
                && tree.getStatement().toString().contains("++"));
        return super.visitWhileLoop(tree, none);
    }

    @Override
    public Void visitDoWhileLoop(DoWhileLoopTree tree, Void none) {
        never(9, tree, "a loop whose end is behind it");
        return super.visitDoWhileLoop(tree, none);
    }

    @Override
    public Void visitThrow(ThrowTree tree, Void none) {
        never(6, tree, "throw");
        return null;
    }

    @Override
    public Void visitTry(TryTree tree, Void none) {
        never(6, tree, "try");
        return null;
    }

    @Override
    public Void visitSynchronized(SynchronizedTree tree, Void none) {
        never(6, tree, "synchronized");
        return null;
    }

    @Override
    public Void visitAssert(AssertTree tree, Void none) {
        never(6, tree, "assert");
        return null;
    }

    @Override
    public Void visitSwitchExpression(SwitchExpressionTree tree, Void none) {
        never(10, tree, "a switch that is no row");
        return null;
    }

    @Override
    public Void visitLambdaExpression(LambdaExpressionTree tree, Void none) {
        never(2, tree, "a lambda");
        return null;
    }

    @Override
    public Void visitMemberReference(MemberReferenceTree tree, Void none) {
        never(2, tree, "a method reference");
        return null;
    }

    // ---- what can be seen when all has been read ----

    private void names() {
        Kit.due("methods were found", methods > 49, true);
        for (String name : hidden) {
            boolean twice = open.contains(name) && !name.equals("<init>");
            Kit.due("rule 1: a method that is hidden bears the public name " + name, twice, false);
        }
    }

    private void depths() {
        int deepest = 0;
        for (String name : calls.keySet()) {
            deepest = Math.max(deepest, depth(name, new ArrayDeque<>()));
        }
        Kit.due("calls were found", deepest > 1, true);
    }

    /** How deep calls go from a method on, itself being the first; a call of its own counts once. */
    private int depth(String name, Deque<String> ahead) {
        if (ahead.contains(name)) {
            Kit.due("rule 8: " + name + " calls itself by others: " + ahead, name.equals(ahead.peek()), true);
            return 0;
        }
        ahead.push(name);
        Kit.due("rule 11: calls go too deep: " + ahead, ahead.size() <= MOST_DEEP, true);
        int deepest = 0;
        for (String next : calls.getOrDefault(name, Set.of())) {
            deepest = Math.max(deepest, depth(next, ahead));
        }
        ahead.pop();
        return deepest + 1;
    }
}
