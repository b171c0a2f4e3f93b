import com.sun.source.tree.ArrayAccessTree;
import com.sun.source.tree.AssertTree;
import com.sun.source.tree.AssignmentTree;
import com.sun.source.tree.BinaryTree;
import com.sun.source.tree.BlockTree;
import com.sun.source.tree.ClassTree;
import com.sun.source.tree.CompilationUnitTree;
import com.sun.source.tree.CompoundAssignmentTree;
import com.sun.source.tree.ConditionalExpressionTree;
import com.sun.source.tree.DoWhileLoopTree;
import com.sun.source.tree.ExpressionTree;
import com.sun.source.tree.ForLoopTree;
import com.sun.source.tree.IfTree;
import com.sun.source.tree.ImportTree;
import com.sun.source.tree.LambdaExpressionTree;
import com.sun.source.tree.LiteralTree;
import com.sun.source.tree.MemberReferenceTree;
import com.sun.source.tree.MethodInvocationTree;
import com.sun.source.tree.MethodTree;
import com.sun.source.tree.NewArrayTree;
import com.sun.source.tree.NewClassTree;
import com.sun.source.tree.PackageTree;
import com.sun.source.tree.SynchronizedTree;
import com.sun.source.tree.ThrowTree;
import com.sun.source.tree.Tree;
import com.sun.source.tree.TryTree;
import com.sun.source.tree.TypeCastTree;
import com.sun.source.tree.UnaryTree;
import com.sun.source.tree.VariableTree;
import com.sun.source.tree.WhileLoopTree;
import com.sun.source.util.JavacTask;
import com.sun.source.util.TreePath;
import com.sun.source.util.TreePathScanner;
import com.sun.source.util.Trees;
import java.io.IOException;
import java.nio.file.Path;
import java.util.ArrayDeque;
import java.util.Deque;
import java.util.LinkedHashMap;
import java.util.LinkedHashSet;
import java.util.List;
import java.util.Map;
import java.util.Set;
import java.util.stream.Collectors;
import java.util.stream.Stream;
import javax.lang.model.element.Element;
import javax.lang.model.element.ElementKind;
import javax.lang.model.element.ExecutableElement;
import javax.lang.model.element.Modifier;
import javax.lang.model.type.ArrayType;
import javax.lang.model.type.TypeKind;
import javax.lang.model.type.TypeMirror;
import javax.tools.JavaCompiler;
import javax.tools.StandardJavaFileManager;
import javax.tools.ToolProvider;

/** The rules of LANGUAGE.md that can be seen from the class's text, read by the compiler; each failure names its rule. */
final class RulesOfTheSource extends TreePathScanner<Void, Void> {
    private static final int MOST_LINES = 60;
    private static final int MOST_PARAMETERS = 7;
    private static final int MOST_CLASSES = 12;
    private static final int MOST_FIELDS = 20;
    private static final int MOST_CALLS_DEEP = 8;

    /** Rule 4, as class and method; the whole numbers' own static functions are told by name. */
    private static final Set<String> LIBRARY = Set.of(
            "String.length", "String.charAt", "String.isEmpty", "String.equals", "String.indexOf", "String.substring",
            "String.toCharArray", "String.<init>", "StringBuilder.<init>", "StringBuilder.append", "StringBuilder.charAt",
            "StringBuilder.setCharAt", "StringBuilder.setLength", "StringBuilder.deleteCharAt", "StringBuilder.reverse",
            "StringBuilder.length", "StringBuilder.toString", "ArrayList.<init>", "ArrayList.add", "ArrayList.get", "ArrayList.set",
            "ArrayList.remove", "ArrayList.size", "ArrayList.isEmpty", "ArrayList.clear", "List.add", "List.get", "List.set",
            "List.remove", "List.size", "List.isEmpty", "List.clear", "List.of", "System.arraycopy", "Arrays.copyOf",
            "Arrays.copyOfRange", "Arrays.fill", "Object.<init>", "Object.clone", "Enum.ordinal");
    private static final Set<String> IMPORTS = Set.of("java.util.ArrayList", "java.util.List", "java.util.Arrays",
            "java.util.Iterator");
    private static final Set<String> CLASSES = Set.of("String", "StringBuilder", "Integer", "ArrayList", "List", "Iterator");
    private static final Set<TypeKind> NUMBERS = Set.of(TypeKind.INT, TypeKind.LONG, TypeKind.SHORT, TypeKind.BYTE, TypeKind.CHAR,
            TypeKind.BOOLEAN, TypeKind.DOUBLE, TypeKind.FLOAT);

    private static final Set<String> FACE = Stream.of(NudgeLocks.class.getDeclaredMethods())
            .filter(m -> java.lang.reflect.Modifier.isPublic(m.getModifiers())).map(m -> m.getName()).collect(Collectors.toSet());

    private final CompilationUnitTree unit;
    private final Trees trees;
    private final Map<String, Set<String>> calls = new LinkedHashMap<>();
    private int classes = 0;

    private RulesOfTheSource(CompilationUnitTree unit, Trees trees) {
        this.unit = unit;
        this.trees = trees;
    }

    static void look(Path file) throws IOException {
        JavaCompiler compiler = ToolProvider.getSystemJavaCompiler();
        try (StandardJavaFileManager files = compiler.getStandardFileManager(null, null, null)) {
            JavacTask task = (JavacTask) compiler.getTask(null, files, null, List.of("--release", "17"), null,
                    files.getJavaFileObjects(file));
            CompilationUnitTree unit = task.parse().iterator().next();
            task.analyze();
            RulesOfTheSource rules = new RulesOfTheSource(unit, Trees.instance(task));
            rules.scan(unit, null);
            rules.end();
        }
    }

    private void end() {
        Check.holds("rule 11: some twelve classes at the most, there are " + classes, classes >= 1 && classes <= MOST_CLASSES);
        for (String method : calls.keySet()) {
            int depth = depth(method, new ArrayDeque<>());
            Check.holds("rule 11: calls go at most eight deep, from " + method + " they go " + depth, depth <= MOST_CALLS_DEEP);
        }
    }

    /** How many of the file's own calls stand open at once; a call back to one that stands open is recursion. */
    private int depth(String method, Deque<String> open) {
        int deepest = 0;
        open.push(method);
        for (String called : calls.getOrDefault(method, Set.of())) {
            if (!open.contains(called)) {
                deepest = Math.max(deepest, depth(called, open));
            }
        }
        open.pop();
        return deepest + 1;
    }

    private void rule(int number, String what, boolean holds, Tree at) {
        long line = unit.getLineMap().getLineNumber(trees.getSourcePositions().getStartPosition(unit, at));
        Check.holds("rule " + number + ": " + what + ", line " + line, holds);
    }

    private void never(int number, String what, Tree at) {
        rule(number, "no " + what, false, at);
    }

    @Override
    public Void visitPackage(PackageTree at, Void none) {
        never(0, "package", at);
        return super.visitPackage(at, none);
    }

    @Override
    public Void visitImport(ImportTree at, Void none) {
        rule(4, "may be imported: " + at.getQualifiedIdentifier(), !at.isStatic()
                && IMPORTS.contains(at.getQualifiedIdentifier().toString()), at);
        return super.visitImport(at, none);
    }

    @Override
    public Void visitLambdaExpression(LambdaExpressionTree at, Void none) {
        never(2, "lambda", at);
        return super.visitLambdaExpression(at, none);
    }

    @Override
    public Void visitMemberReference(MemberReferenceTree at, Void none) {
        never(2, "method reference", at);
        return super.visitMemberReference(at, none);
    }

    @Override
    public Void visitThrow(ThrowTree at, Void none) {
        never(6, "throw", at);
        return super.visitThrow(at, none);
    }

    @Override
    public Void visitTry(TryTree at, Void none) {
        never(6, "try", at);
        return super.visitTry(at, none);
    }

    @Override
    public Void visitSynchronized(SynchronizedTree at, Void none) {
        never(6, "synchronized", at);
        return super.visitSynchronized(at, none);
    }

    @Override
    public Void visitAssert(AssertTree at, Void none) {
        never(6, "assert", at);
        return super.visitAssert(at, none);
    }

    @Override
    public Void visitClass(ClassTree at, Void none) {
        classes++;
        String name = at.getSimpleName().toString();
        Tree parent = getCurrentPath().getParentPath().getLeaf();
        if (parent.getKind() == Tree.Kind.COMPILATION_UNIT) {
            rule(1, "the class of the document alone stands outside: " + name, name.equals("NudgeLocks"), at);
        } else {
            Element element = trees.getElement(getCurrentPath());
            rule(2, "neither local nor anonymous: " + name, parent instanceof ClassTree && !name.isEmpty(), at);
            rule(2, "static: " + name, element.getModifiers().contains(Modifier.STATIC), at);
            rule(1, "private or package-visible: " + name, !element.getModifiers().contains(Modifier.PUBLIC)
                    && !element.getModifiers().contains(Modifier.PROTECTED), at);
        }
        int fields = 0;
        for (Tree member : at.getMembers()) {
            if (member instanceof BlockTree) {
                rule(5, "no static initialiser block", !((BlockTree) member).isStatic(), member);
            }
            if (member instanceof VariableTree && !((VariableTree) member).getModifiers().getFlags().contains(Modifier.STATIC)) {
                fields++;
            }
        }
        rule(11, "some twenty fields at the most in " + name, fields <= MOST_FIELDS, at);
        return super.visitClass(at, none);
    }

    @Override
    public Void visitVariable(VariableTree at, Void none) {
        Element element = trees.getElement(getCurrentPath());
        rule(3, "a type of the part: " + at.getName(), isAllowed(element.asType()), at);
        if (element.getKind() == ElementKind.FIELD && element.getModifiers().contains(Modifier.STATIC)) {
            rule(5, "a static field is final: " + at.getName(), element.getModifiers().contains(Modifier.FINAL), at);
            boolean isArray = element.asType().getKind() == TypeKind.ARRAY;
            rule(5, "a static row is written out: " + at.getName(), !isArray || at.getInitializer() instanceof NewArrayTree
                    && ((NewArrayTree) at.getInitializer()).getInitializers() != null, at);
            rule(5, "a static field is no object: " + at.getName(), isArray || element.asType().getKind().isPrimitive()
                    || element.asType().toString().equals("java.lang.String"), at);
        }
        return super.visitVariable(at, none);
    }

    private static boolean isAllowed(TypeMirror type) {
        if (type.getKind() == TypeKind.ARRAY) {
            TypeMirror part = ((ArrayType) type).getComponentType();
            if (part.getKind() == TypeKind.ARRAY) {
                return NUMBERS.contains(((ArrayType) part).getComponentType().getKind());
            }
            return isNumberOrOwn(part);
        }
        String name = type.toString().replaceAll("<.*", "").replaceAll("java\\.(lang|util)\\.", "");
        return isNumberOrOwn(type) || CLASSES.contains(name);
    }

    private static boolean isNumberOrOwn(TypeMirror type) {
        return NUMBERS.contains(type.getKind()) || type.getKind() == TypeKind.TYPEVAR || type.toString().startsWith("NudgeLocks.");
    }

    @Override
    public Void visitMethod(MethodTree at, Void none) {
        String name = at.getName().toString();
        calls.putIfAbsent(nameOf((ExecutableElement) trees.getElement(getCurrentPath())), new LinkedHashSet<>());
        rule(11, "seven parameters at the most: " + name, at.getParameters().size() <= MOST_PARAMETERS, at);
        long from = unit.getLineMap().getLineNumber(Math.max(0, trees.getSourcePositions().getStartPosition(unit, at)));
        long to = unit.getLineMap().getLineNumber(Math.max(0, trees.getSourcePositions().getEndPosition(unit, at)));
        rule(11, "some sixty lines at the most: " + name, to - from < MOST_LINES, at);
        rule(6, "no method of every object: " + name, !Set.of("equals", "hashCode", "toString").contains(name), at);
        rule(6, "throws nothing: " + name, at.getThrows().isEmpty(), at);
        boolean isPrivate = at.getModifiers().getFlags().contains(Modifier.PRIVATE);
        rule(1, "a private method has a name of its own: " + name, !isPrivate || !FACE.contains(name), at);
        return super.visitMethod(at, none);
    }

    @Override
    public Void visitMethodInvocation(MethodInvocationTree at, Void none) {
        called((ExecutableElement) trees.getElement(getCurrentPath()), at);
        return super.visitMethodInvocation(at, none);
    }

    @Override
    public Void visitNewClass(NewClassTree at, Void none) {
        rule(2, "no anonymous class", at.getClassBody() == null, at);
        called((ExecutableElement) trees.getElement(getCurrentPath()), at);
        return super.visitNewClass(at, none);
    }

    private void called(ExecutableElement method, Tree at) {
        String name = nameOf(method);
        if (method.getEnclosingElement().toString().startsWith("NudgeLocks")) {
            calls.computeIfAbsent(openMethod(), m -> new LinkedHashSet<>()).add(name);
            return;
        }
        String site = name.replaceAll("java\\.(lang|util)\\.", "").replaceAll("\\[.*", "").replaceAll("<[A-Z].*?>", "");
        boolean ofWholeNumbers = site.matches("(Integer|Long|Math)\\.\\w+") && method.getModifiers().contains(Modifier.STATIC)
                && method.getParameters().stream().allMatch(p -> Set.of(TypeKind.INT, TypeKind.LONG).contains(p.asType().getKind()))
                && !site.endsWith("Exact") && NUMBERS.contains(method.getReturnType().getKind()) && !site.equals("Math.random");
        rule(4, "of the library: " + site, ofWholeNumbers || LIBRARY.contains(site), at);
    }

    private String openMethod() {
        for (TreePath path = getCurrentPath(); path != null; path = path.getParentPath()) {
            if (path.getLeaf() instanceof MethodTree) {
                return nameOf((ExecutableElement) trees.getElement(path));
            }
        }
        return "outside of methods";
    }

    private static String nameOf(ExecutableElement method) {
        return method.getEnclosingElement() + "." + method.getSimpleName()
                + method.getParameters().stream().map(p -> p.asType().toString()).toList();
    }

    @Override
    public Void visitBinary(BinaryTree at, Void none) {
        TypeMirror left = typeOf(at.getLeftOperand());
        TypeMirror right = typeOf(at.getRightOperand());
        switch (at.getKind()) {
            case PLUS:
                rule(10, "no texts joined by +: " + at, left.getKind().isPrimitive() && right.getKind().isPrimitive(), at);
                break;
            case EQUAL_TO: case NOT_EQUAL_TO:
                rule(6, "no two Strings or Integers compared by what they are: " + at, !isText(left) && !isText(right)
                        || left.getKind() == TypeKind.NULL || right.getKind() == TypeKind.NULL, at);
                break;
            case DIVIDE: case REMAINDER:
                rule(7, "a divisor is looked at before it divides: " + at, isSafeDivisor(at.getRightOperand()), at);
                break;
            default:
                break;
        }
        return super.visitBinary(at, none);
    }

    @Override
    public Void visitAssignment(AssignmentTree at, Void none) {
        staysAsWritten(at.getVariable());
        return super.visitAssignment(at, none);
    }

    @Override
    public Void visitUnary(UnaryTree at, Void none) {
        boolean changes = at.getKind().name().matches(".*(INCREMENT|DECREMENT)");
        if (changes) {
            staysAsWritten(at.getExpression());
        }
        return super.visitUnary(at, none);
    }

    /** A static row must not have an element changed. */
    private void staysAsWritten(ExpressionTree changed) {
        if (changed instanceof ArrayAccessTree) {
            ExpressionTree row = ((ArrayAccessTree) changed).getExpression();
            Element element = trees.getElement(new TreePath(getCurrentPath(), row));
            boolean isStatic = element != null && element.getModifiers().contains(Modifier.STATIC);
            rule(5, "a static row is never changed: " + row, !isStatic, changed);
        }
    }

    @Override
    public Void visitCompoundAssignment(CompoundAssignmentTree at, Void none) {
        if (at.getKind() == Tree.Kind.DIVIDE_ASSIGNMENT || at.getKind() == Tree.Kind.REMAINDER_ASSIGNMENT) {
            rule(7, "a divisor is looked at before it divides: " + at, isSafeDivisor(at.getExpression()), at);
        }
        staysAsWritten(at.getVariable());
        rule(10, "no texts joined by +=: " + at, typeOf(at.getVariable()).getKind().isPrimitive(), at);
        return super.visitCompoundAssignment(at, none);
    }

    /** Either a number that is written there and not 0, or behind a test that names it. */
    private boolean isSafeDivisor(ExpressionTree divisor) {
        if (divisor instanceof LiteralTree) {
            return !divisor.toString().matches("0+[lL]?");
        }
        return isBehindTest(divisor.toString() + " > 0") || isBehindTest(divisor.toString() + " != 0");
    }

    @Override
    public Void visitTypeCast(TypeCastTree at, Void none) {
        boolean ofNumbers = typeOf(at).getKind().isPrimitive() && typeOf(at.getExpression()).getKind().isPrimitive();
        String test = at.getExpression() + " instanceof " + at.getType();
        rule(6, "a cast of objects stands behind its test: " + at, ofNumbers || isBehindTest(test), at);
        return super.visitTypeCast(at, none);
    }

    private boolean isBehindTest(String test) {
        for (TreePath path = getCurrentPath(); path != null; path = path.getParentPath()) {
            if (conditionOf(path.getLeaf()).contains(test)) {
                return true;
            }
        }
        return false;
    }

    private static String conditionOf(Tree at) {
        if (at instanceof ConditionalExpressionTree) {
            return ((ConditionalExpressionTree) at).getCondition().toString();
        }
        return at instanceof IfTree ? ((IfTree) at).getCondition().toString() : "";
    }

    private TypeMirror typeOf(Tree at) {
        return trees.getTypeMirror(new TreePath(getCurrentPath(), at));
    }

    private static boolean isText(TypeMirror type) {
        return type.toString().equals("java.lang.String") || type.toString().equals("java.lang.Integer");
    }

    @Override
    public Void visitForLoop(ForLoopTree at, Void none) {
        String condition = at.getCondition() == null ? "" : at.getCondition().toString();
        rule(9, "a loop with a bound: " + condition, at.getInitializer().size() == 1 && at.getUpdate().size() == 1
                && condition.matches(".*[<>].*"), at);
        return super.visitForLoop(at, none);
    }

    @Override
    public Void visitWhileLoop(WhileLoopTree at, Void none) {
        rule(9, "a loop with a bound: " + at.getCondition(), at.getCondition().toString().matches(".*(<|>|!= null).*"), at);
        return super.visitWhileLoop(at, none);
    }

    @Override
    public Void visitDoWhileLoop(DoWhileLoopTree at, Void none) {
        rule(9, "a loop with a bound: " + at.getCondition(), at.getCondition().toString().matches(".*(<|>|!= null).*"), at);
        return super.visitDoWhileLoop(at, none);
    }
}
