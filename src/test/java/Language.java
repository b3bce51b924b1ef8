import com.sun.source.tree.*;
import com.sun.source.util.JavacTask;
import com.sun.source.util.TreePath;
import com.sun.source.util.TreePathScanner;
import com.sun.source.util.Trees;
import java.io.IOException;
import java.util.ArrayList;
import java.util.HashMap;
import java.util.LinkedHashSet;
import java.util.List;
import java.util.Map;
import java.util.Set;
import javax.lang.model.element.Element;
import javax.lang.model.element.ElementKind;
import javax.lang.model.element.ExecutableElement;
import javax.lang.model.element.Modifier;
import javax.lang.model.type.ArrayType;
import javax.lang.model.type.TypeKind;
import javax.lang.model.type.TypeMirror;
import javax.tools.JavaFileObject;
import javax.tools.ToolProvider;

/**
 * Reads a program as the compiler does, and tells where it leaves LANGUAGE.md. Where a rule allows more than the class
 * needs, this asks for the less: no recursion, no casts of references, nothing made outside of constructors.
 */
final class Language extends TreePathScanner<Void, Void> {
    private static final int MOST_PARAMETERS = 7;
    private static final int MOST_LINES = 60;
    private static final int MOST_CLASSES = 12;
    private static final int MOST_FIELDS = 20;
    private static final int MOST_DEPTH = 8;
    private static final Set<String> TEXTS = Set.of("java.lang.String", "java.lang.StringBuilder");
    private static final Set<String> NUMBERS = Set.of("java.lang.Math", "java.lang.Integer", "java.lang.Long");
    private static final Set<String> LIBRARY = Set.of("String.length", "String.charAt", "String.isEmpty", "String.equals",
        "String.indexOf", "String.substring", "String.toCharArray", "StringBuilder.append", "StringBuilder.charAt",
        "StringBuilder.setCharAt", "StringBuilder.setLength", "StringBuilder.deleteCharAt", "StringBuilder.reverse",
        "StringBuilder.length", "StringBuilder.toString");
    private static final Set<String> ON_ROWS = Set.of("java.lang.System.arraycopy", "java.util.Arrays.copyOf",
        "java.util.Arrays.copyOfRange", "java.util.Arrays.fill");
    private static final Set<TypeKind> ROW_CONSTANTS = Set.of(TypeKind.INT, TypeKind.LONG, TypeKind.CHAR, TypeKind.BYTE);

    private final Set<String> breaks = new LinkedHashSet<>();
    private final Map<Element, Set<Element>> calls = new HashMap<>();
    private final Trees trees;
    private int classes;

    private Language(Trees trees) {
        this.trees = trees;
    }

    /** Each as "rule: line: what". */
    static Set<String> breaksIn(JavaFileObject file) throws IOException {
        JavacTask task = (JavacTask) ToolProvider.getSystemJavaCompiler().getTask(null, null, null,
            List.of("-proc:none"), null, List.of(file));
        Language language = new Language(Trees.instance(task));
        Iterable<? extends CompilationUnitTree> units = task.parse();
        task.analyze();
        for (CompilationUnitTree unit : units) {
            language.scan(unit, null);
            language.looksAtCalls();
        }
        return language.breaks;
    }

    private void due(boolean isKept, int rule, Tree tree, String what) {
        if (!isKept) {
            CompilationUnitTree unit = getCurrentPath().getCompilationUnit();
            long position = trees.getSourcePositions().getStartPosition(unit, tree);
            breaks.add(rule + ": line " + line(unit, position) + ": " + what);
        }
    }

    private static long line(CompilationUnitTree unit, long position) {
        return position < 0 ? 0 : unit.getLineMap().getLineNumber(position);
    }

    private Element elementOf(Tree tree) {
        return trees.getElement(new TreePath(getCurrentPath(), tree));
    }

    private TypeMirror typeOf(Tree tree) {
        return trees.getTypeMirror(new TreePath(getCurrentPath(), tree));
    }

    // ---- rules 1, 2, 5, 11: classes, fields, methods

    @Override
    public Void visitCompilationUnit(CompilationUnitTree unit, Void none) {
        super.visitCompilationUnit(unit, none);
        due(unit.getPackageName() == null, 1, unit, "a package");
        due(unit.getTypeDecls().size() == 1, 1, unit, "one class of the face");
        due(classes <= MOST_CLASSES, 11, unit, "classes");
        return null;
    }

    @Override
    public Void visitClass(ClassTree type, Void none) {
        classes++;
        Tree around = getCurrentPath().getParentPath().getLeaf();
        Set<Modifier> modifiers = type.getModifiers().getFlags();
        if (around.getKind() == Tree.Kind.COMPILATION_UNIT) {
            due(modifiers.equals(Set.of(Modifier.PUBLIC, Modifier.FINAL)), 1, type, "public and final");
        } else {
            due(around instanceof ClassTree, 2, type, "a class inside of a method");
            due(modifiers.contains(Modifier.STATIC), 2, type, "a class inside that is not static");
            due(!modifiers.contains(Modifier.PUBLIC) && !modifiers.contains(Modifier.PROTECTED), 1, type, "a member");
        }
        int fields = 0;
        for (Tree member : type.getMembers()) {
            due(!(member instanceof BlockTree), 5, member, "an initialiser block");
            if (member instanceof VariableTree) {
                fields += ((VariableTree) member).getModifiers().getFlags().contains(Modifier.STATIC) ? 0 : 1;
            }
        }
        due(fields <= MOST_FIELDS, 11, type, "fields");
        return super.visitClass(type, none);
    }

    @Override
    public Void visitMethod(MethodTree method, Void none) {
        CompilationUnitTree unit = getCurrentPath().getCompilationUnit();
        long begin = trees.getSourcePositions().getStartPosition(unit, method);
        long end = trees.getSourcePositions().getEndPosition(unit, method);
        due(line(unit, end) - line(unit, begin) < MOST_LINES, 11, method, "a long method");
        due(method.getParameters().size() <= MOST_PARAMETERS, 11, method, "parameters");
        due(method.getThrows().isEmpty(), 6, method, "throws");
        due(!method.getModifiers().getFlags().contains(Modifier.NATIVE), 7, method, "native");
        if (method.getReturnType() != null) {
            due(isAllowed(typeOf(method.getReturnType())), 3, method, "a type");
        }
        return super.visitMethod(method, none);
    }

    @Override
    public Void visitVariable(VariableTree variable, Void none) {
        TypeMirror type = typeOf(variable.getType());
        due(isAllowed(type), 3, variable, "a type: " + type);
        Set<Modifier> modifiers = variable.getModifiers().getFlags();
        if (modifiers.contains(Modifier.STATIC)) {
            due(modifiers.contains(Modifier.FINAL), 5, variable, "a static field that is not final");
            due(isConstant(type, variable.getInitializer()), 5, variable, "a static field of another kind");
        }
        if (getCurrentPath().getParentPath().getLeaf().getKind() == Tree.Kind.CLASS) {
            boolean isOfTheFace = getCurrentPath().getParentPath().getParentPath().getLeaf() instanceof CompilationUnitTree;
            boolean isHidden = modifiers.contains(Modifier.PRIVATE);
            boolean isConstant = modifiers.containsAll(Set.of(Modifier.PUBLIC, Modifier.STATIC, Modifier.FINAL));
            due(!isOfTheFace || isHidden || isConstant, 1, variable, "a member");
        }
        return super.visitVariable(variable, none);
    }

    private static boolean isConstant(TypeMirror type, ExpressionTree initializer) {
        if (type.getKind() != TypeKind.ARRAY) {
            return type.getKind() == TypeKind.INT || type.getKind() == TypeKind.LONG || type.getKind() == TypeKind.BOOLEAN
                || type.getKind() == TypeKind.CHAR || type.toString().equals("java.lang.String");
        }
        return ROW_CONSTANTS.contains(((ArrayType) type).getComponentType().getKind())
            && initializer instanceof NewArrayTree && ((NewArrayTree) initializer).getInitializers() != null;
    }

    // ---- rule 3: types

    private static boolean isAllowed(TypeMirror type) {
        if (type.getKind() == TypeKind.ARRAY) {
            TypeMirror inside = ((ArrayType) type).getComponentType();
            boolean isRow = inside.getKind() == TypeKind.ARRAY;
            return isRow ? ((ArrayType) inside).getComponentType().getKind().isPrimitive() : isAllowed(inside);
        }
        return type.getKind() == TypeKind.VOID || type.getKind().isPrimitive() && !isBroken(type)
            || TEXTS.contains(type.toString()) || isOwn(type.toString());
    }

    // Where halves have no place in the document, a number that has them is a mistake.
    private static boolean isBroken(TypeMirror type) {
        return type.getKind() == TypeKind.DOUBLE || type.getKind() == TypeKind.FLOAT;
    }

    private static boolean isOwn(String type) {
        return type.equals("TrailTeams") || type.startsWith("TrailTeams.");
    }

    @Override
    public Void visitLiteral(LiteralTree literal, Void none) {
        String text = literal.getValue() instanceof String || literal.getValue() instanceof Character
            ? literal.getValue().toString() : "a";
        due(text.chars().allMatch(sign -> sign >= 1 && sign <= 127), 4, literal, "a sign");
        return super.visitLiteral(literal, none);
    }

    // ---- rules 2, 6, 10: what is ruled out

    @Override
    public Void visitLambdaExpression(LambdaExpressionTree tree, Void none) {
        due(false, 2, tree, "a lambda");
        return null;
    }

    @Override
    public Void visitMemberReference(MemberReferenceTree tree, Void none) {
        due(false, 2, tree, "a method reference");
        return null;
    }

    @Override
    public Void visitThrow(ThrowTree tree, Void none) {
        due(false, 6, tree, "throw");
        return super.visitThrow(tree, none);
    }

    @Override
    public Void visitTry(TryTree tree, Void none) {
        due(false, 6, tree, "try");
        return super.visitTry(tree, none);
    }

    @Override
    public Void visitSynchronized(SynchronizedTree tree, Void none) {
        due(false, 6, tree, "synchronized");
        return super.visitSynchronized(tree, none);
    }

    @Override
    public Void visitAssert(AssertTree tree, Void none) {
        due(false, 6, tree, "assert");
        return super.visitAssert(tree, none);
    }

    @Override
    public Void visitInstanceOf(InstanceOfTree tree, Void none) {
        due(false, 6, tree, "instanceof");
        return super.visitInstanceOf(tree, none);
    }

    @Override
    public Void visitTypeCast(TypeCastTree cast, Void none) {
        due(typeOf(cast.getType()).getKind().isPrimitive(), 6, cast, "a cast of a reference");
        return super.visitTypeCast(cast, none);
    }

    @Override
    public Void visitAnnotation(AnnotationTree annotation, Void none) {
        due(false, 4, annotation, "an annotation");
        return null;
    }

    @Override
    public Void visitBinary(BinaryTree tree, Void none) {
        boolean isOfTexts = !isNumber(typeOf(tree.getLeftOperand())) || !isNumber(typeOf(tree.getRightOperand()));
        due(!(tree.getKind() == Tree.Kind.PLUS && isOfTexts), 10, tree, "texts joined by +");
        boolean isSame = tree.getKind() == Tree.Kind.EQUAL_TO || tree.getKind() == Tree.Kind.NOT_EQUAL_TO;
        due(!(isSame && isOfTexts), 6, tree, "== of references");
        return super.visitBinary(tree, none);
    }

    @Override
    public Void visitCompoundAssignment(CompoundAssignmentTree tree, Void none) {
        due(isNumber(typeOf(tree.getVariable())), 10, tree, "texts joined by +=");
        looksAtTarget(tree.getVariable());
        return super.visitCompoundAssignment(tree, none);
    }

    private static boolean isNumber(TypeMirror type) {
        return type.getKind().isPrimitive();
    }

    // ---- rule 5: rows that are never changed

    @Override
    public Void visitAssignment(AssignmentTree tree, Void none) {
        looksAtTarget(tree.getVariable());
        return super.visitAssignment(tree, none);
    }

    @Override
    public Void visitUnary(UnaryTree tree, Void none) {
        boolean isAsking = tree.getKind() == Tree.Kind.UNARY_MINUS || tree.getKind() == Tree.Kind.LOGICAL_COMPLEMENT
            || tree.getKind() == Tree.Kind.BITWISE_COMPLEMENT || tree.getKind() == Tree.Kind.UNARY_PLUS;
        if (!isAsking) {
            looksAtTarget(tree.getExpression());
        }
        return super.visitUnary(tree, none);
    }

    private void looksAtTarget(ExpressionTree target) {
        if (target instanceof ArrayAccessTree) {
            due(!isStatic(((ArrayAccessTree) target).getExpression()), 5, target, "a constant row that is changed");
        }
    }

    private boolean isStatic(ExpressionTree row) {
        Element element = elementOf(row);
        return element != null && element.getModifiers().contains(Modifier.STATIC);
    }

    // ---- rule 4: the library

    @Override
    public Void visitMethodInvocation(MethodInvocationTree call, Void none) {
        ExecutableElement called = (ExecutableElement) elementOf(call.getMethodSelect());
        String type = called.getEnclosingElement().toString();
        String name = called.getSimpleName().toString();
        if (isOwn(type)) {
            addCall(called);
        } else if (NUMBERS.contains(type)) {
            boolean isOverNumbers = called.getParameters().stream().allMatch(taken ->
                taken.asType().getKind() == TypeKind.INT || taken.asType().getKind() == TypeKind.LONG);
            due(isOverNumbers && !name.endsWith("Exact"), 4, call, called.toString());
        } else if (ON_ROWS.contains(type + "." + name)) {
            looksAtRows(call, name);
        } else {
            boolean isInner = name.equals("<init>") && type.equals("java.lang.Object");
            boolean isOfTexts = LIBRARY.contains(type.replace("java.lang.", "") + "." + name);
            due(isInner || isOfTexts, 4, call, type + "." + called);
        }
        return super.visitMethodInvocation(call, none);
    }

    private void looksAtRows(MethodInvocationTree call, String name) {
        List<? extends ExpressionTree> given = call.getArguments();
        for (ExpressionTree argument : given) {
            TypeMirror type = typeOf(argument);
            boolean isRow = type.getKind() == TypeKind.ARRAY;
            due(!isRow || ((ArrayType) type).getComponentType().getKind().isPrimitive(), 4, call, "a row of others");
        }
        if (!name.startsWith("copyOf")) {
            ExpressionTree changed = given.get(name.equals("fill") ? 0 : 2);
            due(!isStatic(changed), 5, call, "a constant row that is changed");
        }
    }

    @Override
    public Void visitMemberSelect(MemberSelectTree select, Void none) {
        Element element = trees.getElement(getCurrentPath());
        if (element != null && element.getKind().isField() && !element.getSimpleName().contentEquals("length")) {
            due(isOwn(element.getEnclosingElement().toString()), 4, select, select.toString());
        }
        return super.visitMemberSelect(select, none);
    }

    // ---- rule 12: what is made

    @Override
    public Void visitNewClass(NewClassTree made, Void none) {
        TypeMirror type = trees.getTypeMirror(getCurrentPath());
        due(made.getClassBody() == null, 2, made, "an anonymous class");
        due(isOwn(type.toString()), 4, made, "new " + type);
        due(isMadeWithItsOwner(), 12, made, "made by a call");
        Element constructor = trees.getElement(getCurrentPath());
        if (constructor != null) {
            addCall(constructor);
        }
        return super.visitNewClass(made, none);
    }

    @Override
    public Void visitNewArray(NewArrayTree made, Void none) {
        due(isMadeWithItsOwner(), 12, made, "made by a call");
        return super.visitNewArray(made, none);
    }

    private boolean isMadeWithItsOwner() {
        Element maker = methodAround();
        return maker == null || maker.getKind() == ElementKind.CONSTRUCTOR;
    }

    private Element methodAround() {
        for (TreePath path = getCurrentPath(); path != null; path = path.getParentPath()) {
            if (path.getLeaf() instanceof MethodTree) {
                return trees.getElement(path);
            }
        }
        return null;
    }

    // ---- rule 9: loops

    @Override
    public Void visitForLoop(ForLoopTree loop, Void none) {
        String step = loop.getUpdate().size() == 1 ? textOf(loop.getUpdate().get(0)) : "";
        boolean isCounted = steps(step, loop.getCondition()) && !changes(loop.getStatement(), counter(step));
        due(isCounted, 9, loop, "a loop without a counter");
        return super.visitForLoop(loop, none);
    }

    @Override
    public Void visitWhileLoop(WhileLoopTree loop, Void none) {
        boolean isCounted = false;
        if (loop.getStatement() instanceof BlockTree) {
            for (StatementTree statement : ((BlockTree) loop.getStatement()).getStatements()) {
                isCounted = isCounted || steps(textOf(statement), loop.getCondition());
            }
        }
        due(isCounted, 9, loop, "a loop without a counter");
        return super.visitWhileLoop(loop, none);
    }

    @Override
    public Void visitDoWhileLoop(DoWhileLoopTree loop, Void none) {
        due(false, 9, loop, "do");
        return super.visitDoWhileLoop(loop, none);
    }

    private static String textOf(StatementTree statement) {
        return statement.toString().replace(";", "").trim();
    }

    private static String counter(String step) {
        return step.replace("++", "").replace("--", "");
    }

    /** Whether the step leads to the bound of the condition. */
    private static boolean steps(String step, ExpressionTree condition) {
        String counter = counter(step);
        if (condition == null || !counter.matches("\\w+")) {
            return false;
        }
        for (String part : condition.toString().replaceAll("[()]", "").split("&&")) {
            String bound = step.endsWith("++") ? counter + " <=? .+" : counter + " >=? .+";
            if (part.trim().matches(bound) && step.matches("\\w+(\\+\\+|--)")) {
                return true;
            }
        }
        return false;
    }

    private static boolean changes(StatementTree body, String counter) {
        return body.toString().matches("(?s).*\\b" + counter + "\\b( [-+*/%&|^]?=[^=]|\\+\\+|--).*");
    }

    // ---- rules 8 and 11: calls

    private void addCall(Element called) {
        Element caller = methodAround();
        if (caller != null) {
            calls.computeIfAbsent(caller, any -> new LinkedHashSet<>()).add(called);
        }
    }

    private void looksAtCalls() {
        for (Element caller : calls.keySet()) {
            looksDeeper(new ArrayList<>(), caller);
        }
    }

    private void looksDeeper(List<Element> above, Element caller) {
        if (above.contains(caller)) {
            breaks.add("8: " + caller + " calls itself");
            return;
        }
        if (above.size() >= MOST_DEPTH) {
            breaks.add("11: calls are too deep: " + above);
            return;
        }
        List<Element> open = new ArrayList<>(above);
        open.add(caller);
        for (Element called : calls.getOrDefault(caller, Set.of())) {
            looksDeeper(open, called);
        }
    }
}
