import com.sun.source.tree.AnnotationTree;
import com.sun.source.tree.ArrayAccessTree;
import com.sun.source.tree.AssertTree;
import com.sun.source.tree.BinaryTree;
import com.sun.source.tree.BlockTree;
import com.sun.source.tree.CatchTree;
import com.sun.source.tree.ClassTree;
import com.sun.source.tree.CompilationUnitTree;
import com.sun.source.tree.CompoundAssignmentTree;
import com.sun.source.tree.DoWhileLoopTree;
import com.sun.source.tree.EnhancedForLoopTree;
import com.sun.source.tree.ExpressionTree;
import com.sun.source.tree.ForLoopTree;
import com.sun.source.tree.ImportTree;
import com.sun.source.tree.IdentifierTree;
import com.sun.source.tree.LambdaExpressionTree;
import com.sun.source.tree.LiteralTree;
import com.sun.source.tree.MemberReferenceTree;
import com.sun.source.tree.MemberSelectTree;
import com.sun.source.tree.MethodInvocationTree;
import com.sun.source.tree.MethodTree;
import com.sun.source.tree.NewArrayTree;
import com.sun.source.tree.NewClassTree;
import com.sun.source.tree.ParenthesizedTree;
import com.sun.source.tree.ReturnTree;
import com.sun.source.tree.SynchronizedTree;
import com.sun.source.tree.ThrowTree;
import com.sun.source.tree.Tree;
import com.sun.source.tree.TryTree;
import com.sun.source.tree.TypeCastTree;
import com.sun.source.tree.VariableTree;
import com.sun.source.tree.WhileLoopTree;
import com.sun.source.util.JavacTask;
import com.sun.source.util.TreePath;
import com.sun.source.util.TreePathScanner;
import com.sun.source.util.TreeScanner;
import com.sun.source.util.Trees;
import java.util.ArrayList;
import java.util.HashSet;
import java.util.LinkedHashMap;
import java.util.LinkedHashSet;
import java.util.List;
import java.util.Map;
import java.util.Set;
import javax.lang.model.element.Element;
import javax.lang.model.element.ElementKind;
import javax.lang.model.element.ExecutableElement;
import javax.lang.model.element.Modifier;
import javax.lang.model.element.TypeElement;
import javax.lang.model.type.ArrayType;
import javax.lang.model.type.TypeKind;
import javax.lang.model.type.TypeMirror;
import javax.tools.ToolProvider;

/**
 * Reads a source with the compiler's own tree and tells which rules of LANGUAGE.md it breaks, each as the rule's number
 * and what was seen. It is narrower than the rules where the class needs less than they leave.
 */
final class LanguageRules extends TreePathScanner<Void, Void> {
    private static final Set<String> LIBRARY = Set.of("Math.max", "Math.min", "Math.abs", "String.indexOf", "String.length",
            "String.charAt");
    private static final Set<String> NAMED_TYPES = Set.of("String");
    private static final int MOST_LINES = 60;
    private static final int MOST_DEEP = 8;

    private final Set<String> broken = new LinkedHashSet<>();
    private final Map<String, Set<String>> calls = new LinkedHashMap<>();
    private final Map<String, MethodTree> methods = new LinkedHashMap<>();
    /** Names of methods that may answer null. */
    private final Set<String> nullable = new HashSet<>();
    private final Trees trees;
    private final CompilationUnitTree unit;
    private int classes = 0;

    private LanguageRules(Trees trees, CompilationUnitTree unit) {
        this.trees = trees;
        this.unit = unit;
    }

    static List<String> broken(String source) {
        JavacTask task = (JavacTask) ToolProvider.getSystemJavaCompiler()
                .getTask(null, null, d -> { }, List.of("--release", "17"), null, List.of(Compiled.source("DepositJudge", source)));
        try {
            CompilationUnitTree unit = task.parse().iterator().next();
            task.analyze();
            LanguageRules rules = new LanguageRules(Trees.instance(task), unit);
            rules.findNullable();
            rules.scan(unit, null);
            rules.recursion();
            rules.depth();
            return new ArrayList<>(rules.broken);
        } catch (java.io.IOException e) {
            throw new IllegalStateException(e);
        }
    }

    private void breaks(int rule, String what) {
        Tree tree = getCurrentPath() == null ? unit : getCurrentPath().getLeaf();
        long at = trees.getSourcePositions().getStartPosition(unit, tree);
        broken.add(rule + ": " + what + (at < 0 ? "" : ", line " + unit.getLineMap().getLineNumber(at)));
    }

    private Element element() {
        return trees.getElement(getCurrentPath());
    }

    private TypeMirror typeOf(Tree tree) {
        return trees.getTypeMirror(new TreePath(getCurrentPath(), tree));
    }

    // ---- what may not stand at all

    @Override
    public Void visitImport(ImportTree tree, Void none) {
        breaks(4, "an import");
        return super.visitImport(tree, none);
    }

    @Override
    public Void visitLambdaExpression(LambdaExpressionTree tree, Void none) {
        breaks(2, "a lambda");
        return super.visitLambdaExpression(tree, none);
    }

    @Override
    public Void visitMemberReference(MemberReferenceTree tree, Void none) {
        breaks(2, "a method reference");
        return super.visitMemberReference(tree, none);
    }

    @Override
    public Void visitThrow(ThrowTree tree, Void none) {
        breaks(6, "a throw");
        return super.visitThrow(tree, none);
    }

    @Override
    public Void visitTry(TryTree tree, Void none) {
        breaks(6, "a try");
        return super.visitTry(tree, none);
    }

    @Override
    public Void visitCatch(CatchTree tree, Void none) {
        breaks(6, "a catch");
        return super.visitCatch(tree, none);
    }

    @Override
    public Void visitSynchronized(SynchronizedTree tree, Void none) {
        breaks(6, "synchronized");
        return super.visitSynchronized(tree, none);
    }

    @Override
    public Void visitAssert(AssertTree tree, Void none) {
        breaks(6, "an assert");
        return super.visitAssert(tree, none);
    }

    @Override
    public Void visitAnnotation(AnnotationTree tree, Void none) {
        breaks(4, "an annotation");
        return super.visitAnnotation(tree, none);
    }

    // ---- loops

    @Override
    public Void visitWhileLoop(WhileLoopTree tree, Void none) {
        breaks(9, "a while, whose end is not a counter's");
        return super.visitWhileLoop(tree, none);
    }

    @Override
    public Void visitDoWhileLoop(DoWhileLoopTree tree, Void none) {
        breaks(9, "a do, whose end is not a counter's");
        return super.visitDoWhileLoop(tree, none);
    }

    @Override
    public Void visitForLoop(ForLoopTree tree, Void none) {
        String counter = tree.getInitializer().size() == 1 && tree.getInitializer().get(0) instanceof VariableTree
                ? ((VariableTree) tree.getInitializer().get(0)).getName().toString() : "";
        String step = tree.getUpdate().size() == 1 ? tree.getUpdate().get(0).toString().replaceAll("[\\s;]", "") : "";
        boolean up = step.equals(counter + "++");
        boolean down = step.equals(counter + "--") || step.matches(counter + "-=\\d+");
        if (counter.isEmpty() || !up && !down || !bounded(tree.getCondition(), counter, up)) {
            breaks(9, "a loop without a counter against a bound");
        }
        if (assigns(tree.getStatement(), counter)) {
            breaks(9, "a loop that changes its own counter");
        }
        return super.visitForLoop(tree, none);
    }

    /** One of the conditions that stand between && is the counter against a bound. */
    private static boolean bounded(ExpressionTree condition, String counter, boolean up) {
        ExpressionTree bare = condition;
        while (bare instanceof ParenthesizedTree) {
            bare = ((ParenthesizedTree) bare).getExpression();
        }
        if (!(bare instanceof BinaryTree)) {
            return false;
        }
        BinaryTree two = (BinaryTree) bare;
        if (two.getKind() == Tree.Kind.CONDITIONAL_AND) {
            return bounded(two.getLeftOperand(), counter, up) || bounded(two.getRightOperand(), counter, up);
        }
        boolean below = two.getKind() == Tree.Kind.LESS_THAN || two.getKind() == Tree.Kind.LESS_THAN_EQUAL;
        boolean above = two.getKind() == Tree.Kind.GREATER_THAN || two.getKind() == Tree.Kind.GREATER_THAN_EQUAL;
        return two.getLeftOperand().toString().equals(counter) && (up ? below : above);
    }

    private static boolean assigns(Tree body, String name) {
        return body.toString().matches("(?s).*(?<![\\w.])" + name + "(\\+\\+|--| [-+*/%&|^]?= ).*");
    }

    // ---- classes, methods, fields

    @Override
    public Void visitClass(ClassTree tree, Void none) {
        classes++;
        if (classes > 12) {
            breaks(11, "a thirteenth class");
        }
        Tree outside = getCurrentPath().getParentPath().getLeaf();
        boolean top = outside instanceof CompilationUnitTree;
        if (!top && !(outside instanceof ClassTree)) {
            breaks(2, "a local or anonymous class");
        } else if (!top && !tree.getModifiers().getFlags().contains(Modifier.STATIC)) {
            breaks(2, "a class inside that is not static");
        } else if (!top && hasAny(tree.getModifiers().getFlags(), Modifier.PUBLIC, Modifier.PROTECTED)) {
            breaks(1, "a class inside that others see");
        } else if (top && !tree.getModifiers().getFlags().containsAll(Set.of(Modifier.PUBLIC, Modifier.FINAL))) {
            breaks(1, "the class is not public and final");
        }
        members(tree, top);
        return super.visitClass(tree, none);
    }

    private static boolean hasAny(Set<Modifier> flags, Modifier... some) {
        for (Modifier one : some) {
            if (flags.contains(one)) {
                return true;
            }
        }
        return false;
    }

    private void members(ClassTree tree, boolean top) {
        Set<String> open = new HashSet<>();
        int fields = 0;
        for (Tree member : tree.getMembers()) {
            if (member instanceof MethodTree && top) {
                Set<Modifier> flags = ((MethodTree) member).getModifiers().getFlags();
                String name = ((MethodTree) member).getName().toString();
                if (flags.contains(Modifier.PUBLIC)) {
                    open.add(name);
                } else if (!flags.contains(Modifier.PRIVATE)) {
                    breaks(1, "a member that is neither public nor private: " + name);
                }
            }
            if (member instanceof VariableTree) {
                Set<Modifier> flags = ((VariableTree) member).getModifiers().getFlags();
                fields += flags.contains(Modifier.STATIC) ? 0 : 1;
                field((VariableTree) member, flags, top);
            }
            if (member instanceof BlockTree) {
                breaks(5, "an initialiser block");
            }
        }
        if (fields > 20) {
            breaks(11, "more than twenty fields");
        }
        for (Tree member : tree.getMembers()) {
            boolean closed = member instanceof MethodTree
                    && ((MethodTree) member).getModifiers().getFlags().contains(Modifier.PRIVATE);
            if (closed && open.contains(((MethodTree) member).getName().toString())) {
                breaks(1, "a private method with a public one's name: " + ((MethodTree) member).getName());
            }
        }
    }

    private void field(VariableTree field, Set<Modifier> flags, boolean top) {
        boolean face = flags.contains(Modifier.PUBLIC) && field.getName().contentEquals("NONE");
        if (top && !flags.contains(Modifier.PRIVATE) && !face) {
            breaks(1, "a field that others see: " + field.getName());
        }
        if (!flags.contains(Modifier.STATIC)) {
            return;
        }
        String type = field.getType().toString();
        boolean array = type.matches("(int|long|char|byte)\\[\\]");
        if (!flags.contains(Modifier.FINAL)) {
            breaks(5, "a static field that is not final: " + field.getName());
        }
        if (!array && !type.matches("int|long|boolean|char|String")) {
            breaks(5, "a static field of type " + type);
        }
        boolean writtenOut = field.getInitializer() instanceof NewArrayTree
                && ((NewArrayTree) field.getInitializer()).getInitializers() != null;
        if (array && !writtenOut) {
            breaks(5, "a static array that is not written out: " + field.getName());
        }
    }

    @Override
    public Void visitMethod(MethodTree tree, Void none) {
        if (trees.getSourcePositions().getStartPosition(unit, tree) < 0 || element() == null) {
            return null;
        }
        if (tree.getParameters().size() > 7) {
            breaks(11, "an eighth parameter: " + tree.getName());
        }
        long from = unit.getLineMap().getLineNumber(trees.getSourcePositions().getStartPosition(unit, tree));
        long to = unit.getLineMap().getLineNumber(trees.getSourcePositions().getEndPosition(unit, tree));
        if (to - from + 1 > MOST_LINES) {
            breaks(11, "a method of " + (to - from + 1) + " lines: " + tree.getName());
        }
        if (tree.getName().toString().matches("equals|hashCode|toString|finalize|clone")) {
            breaks(6, "a method " + tree.getName());
        }
        if (!tree.getThrows().isEmpty() || hasAny(tree.getModifiers().getFlags(), Modifier.SYNCHRONIZED, Modifier.NATIVE)) {
            breaks(6, "a method that throws, waits or is native: " + tree.getName());
        }
        methods.put(name(element()), tree);
        return super.visitMethod(tree, none);
    }

    private static String name(Element method) {
        return method.getEnclosingElement().getSimpleName() + "." + method.getSimpleName();
    }

    // ---- types

    @Override
    public Void visitVariable(VariableTree tree, Void none) {
        if (trees.getSourcePositions().getStartPosition(unit, tree) >= 0 && element() != null) {
            type(element().asType(), tree.getName().toString());
            boolean looked = caller() != null && caller().toString().matches("(?s).*\\b" + tree.getName() + " [!=]= null.*");
            if (mayBeNull(tree.getInitializer()) && !looked) {
                breaks(7, "a reference that is not looked at: " + tree.getName());
            }
        }
        return super.visitVariable(tree, none);
    }

    private void type(TypeMirror type, String of) {
        if (type.getKind() == TypeKind.ARRAY) {
            TypeMirror inside = ((ArrayType) type).getComponentType();
            if (inside.getKind() == TypeKind.ARRAY && !((ArrayType) inside).getComponentType().getKind().isPrimitive()) {
                breaks(3, "an array of more than one dimension: " + of);
            } else {
                type(inside, of);
            }
        } else if (type.getKind() == TypeKind.FLOAT || type.getKind() == TypeKind.DOUBLE) {
            breaks(3, "a number that could answer NaN: " + of);
        } else if (type.getKind() == TypeKind.DECLARED && !isOwn(type) && !NAMED_TYPES.contains(plain(type))) {
            breaks(3, "the type " + type + ": " + of);
        }
    }

    private static String plain(TypeMirror type) {
        return type.toString().replaceAll("^java\\.lang\\.", "");
    }

    private static boolean isOwn(TypeMirror type) {
        return type.toString().matches("DepositJudge(\\.\\w+)?");
    }

    @Override
    public Void visitLiteral(LiteralTree tree, Void none) {
        Object value = tree.getValue();
        String text = value instanceof String ? (String) value : value instanceof Character ? value.toString() : "";
        if (text.chars().anyMatch(c -> c < 1 || c > 127)) {
            breaks(4, "a sign beyond 1 to 127");
        }
        if (value instanceof Double || value instanceof Float) {
            breaks(3, "a number that could answer NaN");
        }
        return super.visitLiteral(tree, none);
    }

    @Override
    public Void visitTypeCast(TypeCastTree tree, Void none) {
        TypeMirror type = typeOf(tree.getType());
        if (type == null || !type.getKind().isPrimitive()) {
            breaks(6, "a cast among classes");
        }
        return super.visitTypeCast(tree, none);
    }

    @Override
    public Void visitBinary(BinaryTree tree, Void none) {
        TypeMirror left = typeOf(tree.getLeftOperand());
        TypeMirror right = typeOf(tree.getRightOperand());
        boolean text = isText(left) || isText(right);
        if (text && tree.getKind() == Tree.Kind.PLUS) {
            breaks(10, "a text joined by +");
        }
        boolean same = tree.getKind() == Tree.Kind.EQUAL_TO || tree.getKind() == Tree.Kind.NOT_EQUAL_TO;
        if (same && (text || plain(left).equals("Integer") && plain(right).equals("Integer"))) {
            breaks(6, "== of two Strings or two Integers");
        }
        boolean withNull = left.getKind() == TypeKind.NULL || right.getKind() == TypeKind.NULL;
        if (same && isOwn(left) && isOwn(right) && !withNull) {
            breaks(6, "an answer by which object it is");
        }
        boolean divides = tree.getKind() == Tree.Kind.DIVIDE || tree.getKind() == Tree.Kind.REMAINDER;
        if (divides && !looksAtDivisor(tree.getRightOperand())) {
            breaks(7, "a divisor that is not looked at: " + tree.getRightOperand());
        }
        return super.visitBinary(tree, none);
    }

    private static boolean isText(TypeMirror type) {
        return type != null && type.toString().equals("java.lang.String");
    }

    @Override
    public Void visitCompoundAssignment(CompoundAssignmentTree tree, Void none) {
        if (tree.getKind() == Tree.Kind.DIVIDE_ASSIGNMENT || tree.getKind() == Tree.Kind.REMAINDER_ASSIGNMENT) {
            breaks(7, "a divisor that is not looked at: " + tree.getExpression());
        }
        if (isText(typeOf(tree.getVariable()))) {
            breaks(10, "a text joined by +=");
        }
        return super.visitCompoundAssignment(tree, none);
    }

    /** A divisor is a constant, or a name that the method compares with 0. */
    private boolean looksAtDivisor(ExpressionTree divisor) {
        String name = divisor.toString();
        if (name.matches("[1-9]\\d*|[A-Z][A-Z_]*")) {
            return true;
        }
        TreePath path = getCurrentPath();
        while (path != null && !(path.getLeaf() instanceof MethodTree)) {
            path = path.getParentPath();
        }
        String method = path == null ? "" : path.getLeaf().toString();
        return name.matches("\\w+") && method.matches("(?s).*\\b" + name + " (==|!=|<=|>) 0.*");
    }

    /** A number that was given from outside is looked at ahead of each use as an index. */
    @Override
    public Void visitArrayAccess(ArrayAccessTree tree, Void none) {
        MethodTree method = caller();
        if (method != null && method.getModifiers().getFlags().contains(Modifier.PUBLIC)) {
            String ahead = ahead(method, tree);
            for (VariableTree parameter : method.getParameters()) {
                String name = parameter.getName().toString();
                boolean uses = tree.getIndex().toString().matches(".*\\b" + name + "\\b.*");
                if (uses && !ahead.matches("(?s).*(\\w\\(" + name + "\\b|\\b" + name + "( - \\d+)? [<>=!]=?|[<>]=? " + name + "\\b).*")) {
                    breaks(7, "an index that is not looked at: " + name);
                }
            }
        }
        return super.visitArrayAccess(tree, none);
    }

    private String ahead(MethodTree method, Tree tree) {
        try {
            CharSequence all = unit.getSourceFile().getCharContent(true);
            int from = (int) trees.getSourcePositions().getStartPosition(unit, method.getBody());
            return all.subSequence(from, (int) trees.getSourcePositions().getStartPosition(unit, tree)).toString();
        } catch (java.io.IOException e) {
            throw new IllegalStateException(e);
        }
    }

    private void findNullable() {
        new TreeScanner<Void, String>() {
            @Override
            public Void visitMethod(MethodTree tree, String outside) {
                return super.visitMethod(tree, tree.getName().toString());
            }

            @Override
            public Void visitReturn(ReturnTree tree, String method) {
                if (String.valueOf(tree.getExpression()).matches("(.*\\W)?null(\\W.*)?")) {
                    nullable.add(method);
                }
                return super.visitReturn(tree, method);
            }
        }.scan(unit, null);
    }

    private boolean mayBeNull(Tree value) {
        return value != null && nullable.stream().anyMatch(name -> value.toString().matches("(?s)(.*\\W)?" + name + "\\(.*"));
    }

    @Override
    public Void visitMemberSelect(MemberSelectTree tree, Void none) {
        if (tree.getExpression() instanceof MethodInvocationTree && mayBeNull(tree.getExpression())) {
            breaks(7, "a reference that is not looked at: " + tree.getExpression());
        }
        return super.visitMemberSelect(tree, none);
    }

    @Override
    public Void visitIdentifier(IdentifierTree tree, Void none) {
        MethodTree method = caller();
        boolean makes = method == null || method.getName().contentEquals("<init>");
        boolean whole = !(getCurrentPath().getParentPath().getLeaf() instanceof MemberSelectTree);
        if (tree.getName().contentEquals("this") && makes && whole) {
            breaks(12, "a constructor hands out its object");
        }
        return super.visitIdentifier(tree, none);
    }

    // ---- what is made and called

    @Override
    public Void visitNewClass(NewClassTree tree, Void none) {
        made(tree.getIdentifier().toString());
        if (!isOwn(typeOf(tree))) {
            breaks(4, "a new " + tree.getIdentifier());
        }
        return super.visitNewClass(tree, none);
    }

    @Override
    public Void visitNewArray(NewArrayTree tree, Void none) {
        made("array");
        return super.visitNewArray(tree, none);
    }

    /** The room of a run is small, so objects are made with their owner, and by home alone else. */
    private void made(String what) {
        TreePath path = getCurrentPath();
        while (!(path.getLeaf() instanceof MethodTree) && !(path.getLeaf() instanceof ClassTree)) {
            if (path.getLeaf() instanceof ForLoopTree || path.getLeaf() instanceof EnhancedForLoopTree) {
                breaks(12, "made in a loop: " + what);
            }
            path = path.getParentPath();
        }
        Tree owner = path.getLeaf();
        String name = owner instanceof MethodTree ? ((MethodTree) owner).getName().toString() : "<init>";
        if (!name.equals("<init>") && !name.equals("home")) {
            breaks(12, "made by the call " + name + ": " + what);
        }
    }

    @Override
    public Void visitMethodInvocation(MethodInvocationTree tree, Void none) {
        Element called = trees.getElement(getCurrentPath());
        MethodTree caller = caller();
        if (called instanceof ExecutableElement && caller != null) {
            boolean isSuper = called.getKind() == ElementKind.CONSTRUCTOR;
            String name = name(called);
            if (isOwn(((TypeElement) called.getEnclosingElement()).asType())) {
                calls.computeIfAbsent(callerName(), k -> new LinkedHashSet<>()).add(name);
            } else if (!isSuper && !LIBRARY.contains(name)) {
                breaks(name.matches(".*\\.(nanoTime|currentTimeMillis|random|now)") ? 13 : 4, "the library's " + name);
            }
            if (!isSuper && caller.getName().contentEquals("<init>")) {
                breaks(12, "a constructor calls " + name);
            }
        }
        return super.visitMethodInvocation(tree, none);
    }

    private MethodTree caller() {
        TreePath path = getCurrentPath();
        while (path != null && !(path.getLeaf() instanceof MethodTree)) {
            path = path.getParentPath();
        }
        return path == null ? null : (MethodTree) path.getLeaf();
    }

    private String callerName() {
        TreePath path = getCurrentPath();
        while (!(path.getLeaf() instanceof MethodTree)) {
            path = path.getParentPath();
        }
        return name(trees.getElement(path));
    }

    // ---- recursion and depth

    private boolean reaches(String from, String to, Set<String> seen) {
        for (String next : calls.getOrDefault(from, Set.of())) {
            if (next.equals(to) || seen.add(next) && reaches(next, to, seen)) {
                return true;
            }
        }
        return false;
    }

    /** What calls itself is private and carries how deep it stands. */
    private void recursion() {
        for (Map.Entry<String, MethodTree> entry : methods.entrySet()) {
            if (!reaches(entry.getKey(), entry.getKey(), new HashSet<>())) {
                continue;
            }
            MethodTree method = entry.getValue();
            boolean carries = method.getParameters().stream().anyMatch(p -> p.getName().toString().matches("open|depth"));
            if (!method.getModifiers().getFlags().contains(Modifier.PRIVATE) || !carries) {
                broken.add("8: " + entry.getKey() + " calls itself without a depth");
            }
        }
    }

    private void depth() {
        for (String name : methods.keySet()) {
            int deep = deepest(name, new LinkedHashSet<>());
            if (deep > MOST_DEEP) {
                broken.add("11: " + name + " goes " + deep + " calls deep");
            }
        }
    }

    /** The longest chain in which no method stands twice: what is recursion is counted once. */
    private int deepest(String name, Set<String> open) {
        if (!open.add(name)) {
            return 0;
        }
        int most = 0;
        for (String next : calls.getOrDefault(name, Set.of())) {
            most = Math.max(most, deepest(next, open));
        }
        open.remove(name);
        return most + 1;
    }
}
