import com.sun.source.tree.ArrayAccessTree;
import com.sun.source.tree.AssertTree;
import com.sun.source.tree.AssignmentTree;
import com.sun.source.tree.BinaryTree;
import com.sun.source.tree.ClassTree;
import com.sun.source.tree.BlockTree;
import com.sun.source.tree.CompilationUnitTree;
import com.sun.source.tree.CompoundAssignmentTree;
import com.sun.source.tree.DoWhileLoopTree;
import com.sun.source.tree.ExpressionTree;
import com.sun.source.tree.ForLoopTree;
import com.sun.source.tree.ImportTree;
import com.sun.source.tree.LambdaExpressionTree;
import com.sun.source.tree.LiteralTree;
import com.sun.source.tree.MemberReferenceTree;
import com.sun.source.tree.MethodInvocationTree;
import com.sun.source.tree.MethodTree;
import com.sun.source.tree.NewArrayTree;
import com.sun.source.tree.NewClassTree;
import com.sun.source.tree.ParenthesizedTree;
import com.sun.source.tree.SynchronizedTree;
import com.sun.source.tree.ThrowTree;
import com.sun.source.tree.Tree;
import com.sun.source.tree.TryTree;
import com.sun.source.tree.TypeCastTree;
import com.sun.source.tree.UnaryTree;
import com.sun.source.tree.VariableTree;
import com.sun.source.tree.WhileLoopTree;
import com.sun.source.util.JavacTask;
import com.sun.source.util.TreePath;
import com.sun.source.util.TreePathScanner;
import com.sun.source.util.Trees;
import java.io.IOException;
import java.net.URI;
import java.util.ArrayList;
import java.util.HashSet;
import java.util.List;
import java.util.Set;
import javax.lang.model.element.Element;
import javax.lang.model.element.ElementKind;
import javax.lang.model.element.Modifier;
import javax.lang.model.element.TypeElement;
import javax.lang.model.type.ArrayType;
import javax.lang.model.type.DeclaredType;
import javax.lang.model.type.TypeKind;
import javax.lang.model.type.TypeMirror;
import javax.tools.JavaFileObject;
import javax.tools.SimpleJavaFileObject;
import javax.tools.ToolProvider;

/**
 * Reads a text by the compiler's own trees and tells where it breaks a rule of LANGUAGE.md: the rule's number (0: it
 * doesn't compile), what it is about, and the line. What a text doesn't show (an index looked at, an end that is
 * reached) isn't asked.
 */
final class Rules extends TreePathScanner<Void, Void> {
    private static final int MOST_PARAMETERS = 7;
    private static final int MOST_LINES = 60;
    private static final int MOST_CLASSES = 12;
    private static final int MOST_FIELDS = 20;
    private static final int MOST_DEEP = 8;
    private static final Set<String> LIBRARY = Set.of("String.length", "String.charAt", "String.isEmpty", "String.equals",
        "String.indexOf", "String.substring", "String.toCharArray", "StringBuilder.append", "StringBuilder.charAt",
        "StringBuilder.setCharAt", "StringBuilder.setLength", "StringBuilder.deleteCharAt", "StringBuilder.reverse",
        "StringBuilder.length", "StringBuilder.toString", "ArrayList.add", "ArrayList.get", "ArrayList.set", "ArrayList.remove",
        "ArrayList.size", "ArrayList.isEmpty", "ArrayList.clear", "List.of", "List.add", "List.get", "List.set", "List.remove",
        "List.size", "List.isEmpty", "List.clear", "Math.max", "Math.min", "Math.abs", "Math.floorDiv", "Math.floorMod",
        "Integer.compare", "Integer.max", "Integer.min", "Integer.bitCount", "Long.compare", "Long.max", "Long.min",
        "Long.bitCount", "System.arraycopy", "Arrays.copyOf", "Arrays.copyOfRange", "Arrays.fill", "Array.clone");
    private static final Set<String> TYPES = Set.of("String", "StringBuilder", "Integer", "ArrayList", "List");
    private static final Set<TypeKind> NUMBERS = Set.of(TypeKind.INT, TypeKind.LONG, TypeKind.SHORT, TypeKind.BYTE,
        TypeKind.CHAR, TypeKind.BOOLEAN, TypeKind.DOUBLE, TypeKind.FLOAT);
    private static final Set<TypeKind> CONSTANTS = Set.of(TypeKind.INT, TypeKind.LONG, TypeKind.BOOLEAN, TypeKind.CHAR);
    private static final Set<TypeKind> CONSTANT_ROWS = Set.of(TypeKind.INT, TypeKind.LONG, TypeKind.CHAR, TypeKind.BYTE);

    private final List<String> broken = new ArrayList<>();
    private final Calls calls = new Calls();
    private final Set<String> publicNames = new HashSet<>();
    private final Set<String> privateNames = new HashSet<>();
    private final CompilationUnitTree unit;
    private final Trees trees;
    private int classes;

    private Rules(CompilationUnitTree unit, Trees trees) {
        this.unit = unit;
        this.trees = trees;
    }

    /** A text read and looked through; it must be the text of a class of this name, and compile. */
    static Rules of(String name, String text) throws IOException {
        JavaFileObject file = new SimpleJavaFileObject(URI.create("string:///" + name + ".java"), JavaFileObject.Kind.SOURCE) {
            @Override
            public CharSequence getCharContent(boolean ignored) {
                return text;
            }
        };
        List<String> errors = new ArrayList<>();
        JavacTask task = (JavacTask) ToolProvider.getSystemJavaCompiler().getTask(null, null,
                told -> errors.add("0 " + told), List.of("-proc:none"), null, List.of(file));
        CompilationUnitTree unit = task.parse().iterator().next();
        task.analyze();
        Rules rules = new Rules(unit, Trees.instance(task));
        rules.broken.addAll(errors);
        rules.scan(unit, null);
        rules.look();
        return rules;
    }

    List<String> broken() {
        return broken;
    }

    Set<String> recursions() {
        return calls.recursions();
    }

    int deepest() {
        return calls.deepest();
    }

    private void look() {
        for (String name : privateNames) {
            unless(!publicNames.contains(name), 1, "private " + name + " is the name of a public one", unit);
        }
        unless(classes <= MOST_CLASSES, 11, classes + " classes", unit);
        unless(deepest() <= MOST_DEEP, 11, "calls go " + deepest() + " deep", unit);
        unless(unit.getPackageName() == null, 4, "package", unit);
    }

    private void unless(boolean stands, int rule, String what, Tree at) {
        if (!stands) {
            long place = Math.max(0, trees.getSourcePositions().getStartPosition(unit, at));
            broken.add(rule + " " + what + ", line " + unit.getLineMap().getLineNumber(place));
        }
    }

    private Void never(int rule, String what, Tree at) {
        unless(false, rule, what, at);
        return null;
    }

    // ---- what stands where ----

    private Element elementOf(Tree tree) {
        return trees.getElement(new TreePath(getCurrentPath(), tree));
    }

    private TypeMirror typeOf(Tree tree) {
        return trees.getTypeMirror(new TreePath(getCurrentPath(), tree));
    }

    private Tree enclosing(Class<? extends Tree> kind) {
        for (TreePath path = getCurrentPath().getParentPath(); path != null; path = path.getParentPath()) {
            if (kind.isInstance(path.getLeaf())) {
                return path.getLeaf();
            }
        }
        return null;
    }

    private boolean isOwn(Element type) {
        return type instanceof TypeElement && trees.getTree((TypeElement) type) != null;
    }

    private static String nameOf(Element member) {
        return member.getEnclosingElement().getSimpleName() + "." + member.getSimpleName();
    }

    private static boolean isNamed(TypeMirror type, String name) {
        return type instanceof DeclaredType && ((DeclaredType) type).asElement().getSimpleName().contentEquals(name);
    }

    // ---- classes, methods, fields ----

    @Override
    public Void visitImport(ImportTree tree, Void nothing) {
        String name = tree.getQualifiedIdentifier().toString();
        unless(name.startsWith("java.util.") && !tree.isStatic(), 4, "import " + name, tree);
        return super.visitImport(tree, nothing);
    }

    @Override
    public Void visitClass(ClassTree tree, Void nothing) {
        classes++;
        Set<Modifier> modifiers = tree.getModifiers().getFlags();
        Tree around = getCurrentPath().getParentPath().getLeaf();
        if (around == unit) {
            unless(modifiers.equals(Set.of(Modifier.PUBLIC, Modifier.FINAL)), 1, "not public and final", tree);
        } else {
            unless(around instanceof ClassTree, 2, "a local or nameless class", tree);
            boolean isStatic = modifiers.contains(Modifier.STATIC) || tree.getKind() != Tree.Kind.CLASS;
            unless(isStatic, 2, "a class that isn't static", tree);
            unless(!modifiers.contains(Modifier.PUBLIC) && !modifiers.contains(Modifier.PROTECTED), 1, "an open class", tree);
        }
        int fields = 0;
        for (Tree member : tree.getMembers()) {
            if (member instanceof VariableTree && !((VariableTree) member).getModifiers().getFlags().contains(Modifier.STATIC)) {
                fields++;
            }
            unless(!(member instanceof BlockTree), 5, "an initialiser block", member);
        }
        unless(fields <= MOST_FIELDS, 11, fields + " fields", tree);
        return super.visitClass(tree, nothing);
    }

    @Override
    public Void visitMethod(MethodTree tree, Void nothing) {
        Set<Modifier> modifiers = tree.getModifiers().getFlags();
        String name = tree.getName().toString();
        boolean isOutermost = getCurrentPath().getParentPath().getParentPath().getLeaf() == unit;
        if (isOutermost && modifiers.contains(Modifier.PUBLIC)) {
            publicNames.add(name);
        } else if (!name.equals("<init>")) {
            privateNames.add(name);
        }
        if (isOutermost) {
            unless(modifiers.contains(Modifier.PUBLIC) || modifiers.contains(Modifier.PRIVATE), 1, name + " is open", tree);
        }
        unless(!Set.of("equals", "hashCode", "toString").contains(name), 6, name, tree);
        unless(tree.getParameters().size() <= MOST_PARAMETERS, 11, name + " takes too much", tree);
        long first = line(trees.getSourcePositions().getStartPosition(unit, tree));
        long last = line(trees.getSourcePositions().getEndPosition(unit, tree));
        unless(last - first < MOST_LINES, 11, name + " is long", tree);
        if (tree.getReturnType() != null) {
            type(typeOf(tree.getReturnType()), tree.getReturnType());
        }
        return super.visitMethod(tree, nothing);
    }

    private long line(long place) {
        return place < 0 ? 0 : unit.getLineMap().getLineNumber(place);
    }

    @Override
    public Void visitVariable(VariableTree tree, Void nothing) {
        TypeMirror type = trees.getTypeMirror(getCurrentPath());
        type(type, tree);
        Set<Modifier> modifiers = tree.getModifiers().getFlags();
        if (getCurrentPath().getParentPath().getLeaf() instanceof ClassTree) {
            boolean isOutermost = getCurrentPath().getParentPath().getParentPath().getLeaf() == unit;
            boolean isConstant = modifiers.containsAll(Set.of(Modifier.STATIC, Modifier.FINAL));
            unless(!isOutermost || modifiers.contains(Modifier.PRIVATE) || isConstant && modifiers.contains(Modifier.PUBLIC), 1,
                    tree.getName() + " is open", tree);
            if (modifiers.contains(Modifier.STATIC)) {
                constant(tree, type, modifiers);
            }
        }
        return super.visitVariable(tree, nothing);
    }

    private void constant(VariableTree tree, TypeMirror type, Set<Modifier> modifiers) {
        String name = tree.getName().toString();
        unless(modifiers.contains(Modifier.FINAL), 5, name + " isn't final", tree);
        if (type instanceof ArrayType) {
            unless(CONSTANT_ROWS.contains(((ArrayType) type).getComponentType().getKind()), 5, name + " is a row of others", tree);
            unless(tree.getInitializer() instanceof NewArrayTree
                    && ((NewArrayTree) tree.getInitializer()).getInitializers() != null, 5, name + " isn't written out", tree);
        } else {
            unless(CONSTANTS.contains(type.getKind()) || isNamed(type, "String"), 5, name + " is of another type", tree);
        }
    }

    private void type(TypeMirror type, Tree at) {
        unless(type == null || isFine(type), 3, "the type " + type, at);
    }

    private boolean isFine(TypeMirror type) {
        if (type instanceof ArrayType) {
            TypeMirror of = ((ArrayType) type).getComponentType();
            boolean isTwofold = of instanceof ArrayType && NUMBERS.contains(((ArrayType) of).getComponentType().getKind());
            return isTwofold || !(of instanceof ArrayType) && isFine(of);
        }
        if (type instanceof DeclaredType) {
            Element named = ((DeclaredType) type).asElement();
            return isOwn(named) || TYPES.contains(named.getSimpleName().toString());
        }
        return NUMBERS.contains(type.getKind()) || type.getKind() == TypeKind.VOID || type.getKind() == TypeKind.TYPEVAR;
    }

    // ---- calls and new objects ----

    @Override
    public Void visitMethodInvocation(MethodInvocationTree tree, Void nothing) {
        handedOut(tree.getArguments());
        Element called = elementOf(tree.getMethodSelect());
        if (called == null || called.getSimpleName().contentEquals("<init>")) {
            return super.visitMethodInvocation(tree, nothing);
        }
        if (isOwn(called.getEnclosingElement())) {
            MethodTree caller = (MethodTree) enclosing(MethodTree.class);
            if (caller != null) {
                calls.add(nameOf(trees.getElement(TreePath.getPath(unit, caller))), nameOf(called));
            }
        } else {
            unless(LIBRARY.contains(nameOf(called)), 4, nameOf(called), tree);
        }
        return super.visitMethodInvocation(tree, nothing);
    }

    @Override
    public Void visitNewClass(NewClassTree tree, Void nothing) {
        TypeMirror type = typeOf(tree.getIdentifier());
        type(type, tree);
        unless(tree.getClassBody() == null, 2, "a nameless class", tree);
        made("an object", tree);
        handedOut(tree.getArguments());
        return super.visitNewClass(tree, nothing);
    }

    @Override
    public Void visitNewArray(NewArrayTree tree, Void nothing) {
        made("an array", tree);
        return super.visitNewArray(tree, nothing);
    }

    /** More than rule 12 asks: nothing at all is made after the constructor, so that no count of calls matters. */
    private void made(String what, Tree at) {
        MethodTree maker = (MethodTree) enclosing(MethodTree.class);
        unless(maker == null || maker.getName().contentEquals("<init>"), 12, what + " made in a call", at);
    }

    /** Nothing of the object that is made, nor itself, goes to another one while it is made. */
    private void handedOut(List<? extends ExpressionTree> arguments) {
        MethodTree maker = (MethodTree) enclosing(MethodTree.class);
        for (ExpressionTree argument : arguments) {
            Element handed = maker == null || maker.getName().contentEquals("<init>") ? elementOf(argument) : null;
            boolean isPart = handed != null && handed.getKind() == ElementKind.FIELD
                    && !handed.getModifiers().contains(Modifier.STATIC) && !NUMBERS.contains(handed.asType().getKind());
            unless(!isPart, 12, handed + " is handed out", argument);
        }
    }

    // ---- statements and expressions ----

    @Override
    public Void visitLambdaExpression(LambdaExpressionTree tree, Void nothing) {
        return never(2, "a lambda", tree);
    }

    @Override
    public Void visitMemberReference(MemberReferenceTree tree, Void nothing) {
        return never(2, "a method reference", tree);
    }

    @Override
    public Void visitThrow(ThrowTree tree, Void nothing) {
        return never(6, "throw", tree);
    }

    @Override
    public Void visitTry(TryTree tree, Void nothing) {
        return never(6, "try", tree);
    }

    @Override
    public Void visitSynchronized(SynchronizedTree tree, Void nothing) {
        return never(6, "synchronized", tree);
    }

    @Override
    public Void visitAssert(AssertTree tree, Void nothing) {
        return never(6, "assert", tree);
    }

    @Override
    public Void visitTypeCast(TypeCastTree tree, Void nothing) {
        // one of own classes would be fine behind its test, which isn't looked for: the class needs none
        unless(NUMBERS.contains(typeOf(tree.getType()).getKind()), 6, "a cast", tree);
        return super.visitTypeCast(tree, nothing);
    }

    @Override
    public Void visitBinary(BinaryTree tree, Void nothing) {
        TypeMirror left = typeOf(tree.getLeftOperand());
        TypeMirror right = typeOf(tree.getRightOperand());
        boolean isOfTexts = isNamed(left, "String") || isNamed(right, "String");
        boolean isOfBoxes = isNamed(left, "Integer") || isNamed(right, "Integer");
        switch (tree.getKind()) {
            case EQUAL_TO: case NOT_EQUAL_TO: unless(!isOfTexts && !isOfBoxes, 6, "== of texts", tree); break;
            case PLUS: unless(!isOfTexts, 10, "texts joined by +", tree); break;
            default: break;
        }
        return super.visitBinary(tree, nothing);
    }

    @Override
    public Void visitLiteral(LiteralTree tree, Void nothing) {
        String signs = tree.getValue() instanceof String || tree.getValue() instanceof Character ? tree.getValue().toString() : "";
        unless(signs.chars().allMatch(sign -> sign >= 1 && sign <= 127), 4, "another sign", tree);
        return super.visitLiteral(tree, nothing);
    }

    @Override
    public Void visitForLoop(ForLoopTree tree, Void nothing) {
        unless(tree.getCondition() != null && !isTrue(tree.getCondition()), 9, "a loop without an end", tree);
        return super.visitForLoop(tree, nothing);
    }

    @Override
    public Void visitWhileLoop(WhileLoopTree tree, Void nothing) {
        unless(!isTrue(tree.getCondition()), 9, "a loop without an end", tree);
        return super.visitWhileLoop(tree, nothing);
    }

    @Override
    public Void visitDoWhileLoop(DoWhileLoopTree tree, Void nothing) {
        unless(!isTrue(tree.getCondition()), 9, "a loop without an end", tree);
        return super.visitDoWhileLoop(tree, nothing);
    }

    private static boolean isTrue(ExpressionTree condition) {
        ExpressionTree bare = condition;
        while (bare instanceof ParenthesizedTree) {
            bare = ((ParenthesizedTree) bare).getExpression();
        }
        return bare instanceof LiteralTree && Boolean.TRUE.equals(((LiteralTree) bare).getValue());
    }

    @Override
    public Void visitAssignment(AssignmentTree tree, Void nothing) {
        changed(tree.getVariable());
        return super.visitAssignment(tree, nothing);
    }

    @Override
    public Void visitCompoundAssignment(CompoundAssignmentTree tree, Void nothing) {
        changed(tree.getVariable());
        return super.visitCompoundAssignment(tree, nothing);
    }

    @Override
    public Void visitUnary(UnaryTree tree, Void nothing) {
        switch (tree.getKind()) {
            case PREFIX_INCREMENT: case PREFIX_DECREMENT: case POSTFIX_INCREMENT: case POSTFIX_DECREMENT:
                changed(tree.getExpression());
                break;
            default: break;
        }
        return super.visitUnary(tree, nothing);
    }

    /** An element of a constant row isn't changed. */
    private void changed(ExpressionTree what) {
        if (what instanceof ArrayAccessTree) {
            Element row = trees.getElement(TreePath.getPath(unit, ((ArrayAccessTree) what).getExpression()));
            boolean isConstant = row != null && row.getKind() == ElementKind.FIELD
                    && row.getModifiers().contains(Modifier.STATIC);
            unless(!isConstant, 5, row + " is changed", what);
        }
    }
}
