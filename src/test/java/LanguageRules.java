import com.sun.source.tree.AnnotationTree;
import com.sun.source.tree.ArrayAccessTree;
import com.sun.source.tree.AssertTree;
import com.sun.source.tree.BinaryTree;
import com.sun.source.tree.BlockTree;
import com.sun.source.tree.CatchTree;
import com.sun.source.tree.ClassTree;
import com.sun.source.tree.CompilationUnitTree;
import com.sun.source.tree.CompoundAssignmentTree;
import com.sun.source.tree.ExpressionTree;
import com.sun.source.tree.IdentifierTree;
import com.sun.source.tree.ImportTree;
import com.sun.source.tree.InstanceOfTree;
import com.sun.source.tree.LambdaExpressionTree;
import com.sun.source.tree.MemberReferenceTree;
import com.sun.source.tree.MemberSelectTree;
import com.sun.source.tree.MethodInvocationTree;
import com.sun.source.tree.MethodTree;
import com.sun.source.tree.NewArrayTree;
import com.sun.source.tree.NewClassTree;
import com.sun.source.tree.SynchronizedTree;
import com.sun.source.tree.ThrowTree;
import com.sun.source.tree.Tree;
import com.sun.source.tree.TryTree;
import com.sun.source.tree.TypeCastTree;
import com.sun.source.tree.VariableTree;
import com.sun.source.tree.WhileLoopTree;
import com.sun.source.util.TreePath;
import com.sun.source.util.TreePathScanner;
import com.sun.source.util.Trees;
import java.util.ArrayList;
import java.util.LinkedHashMap;
import java.util.LinkedHashSet;
import java.util.List;
import java.util.Map;
import java.util.Set;
import java.util.regex.Pattern;
import javax.lang.model.element.Element;
import javax.lang.model.element.ElementKind;
import javax.lang.model.element.ExecutableElement;
import javax.lang.model.element.Modifier;
import javax.lang.model.element.TypeElement;
import javax.lang.model.element.VariableElement;
import javax.lang.model.type.TypeKind;
import javax.lang.model.type.TypeMirror;

/** Goes through a class that the compiler has read, and notes what breaks a rule of LANGUAGE.md, with its line. */
final class LanguageRules extends TreePathScanner<Void, Void> {
    private static final Set<String> THROWN = Set.of("IllegalStateException", "IllegalArgumentException",
            "IndexOutOfBoundsException", "ArithmeticException", "UnsupportedOperationException",
            "NoSuchElementException", "RuntimeException");
    private static final Set<String> NUMBERS = Set.of("Math", "Integer", "Long");
    private static final Map<String, Set<String>> LIBRARY = Map.of(
            "System", Set.of("arraycopy"),
            "Arrays", Set.of("copyOf", "copyOfRange", "fill"),
            "String", Set.of("length", "charAt", "isEmpty", "equals", "indexOf", "substring", "toCharArray"),
            "StringBuilder", Set.of("append", "charAt", "setCharAt", "setLength", "deleteCharAt", "reverse", "length",
                    "toString"),
            "ArrayList", Set.of("add", "get", "set", "remove", "size", "isEmpty", "clear"),
            "List", Set.of("add", "get", "set", "remove", "size", "isEmpty", "clear", "of"));
    private static final Set<String> OTHER_TYPES = Set.of("Iterator", "Iterable", "Comparable");
    private static final Set<String> INHERITED = Set.of("equals", "hashCode", "toString");
    private static final Set<TypeKind> CONSTANTS = Set.of(TypeKind.INT, TypeKind.LONG, TypeKind.BOOLEAN, TypeKind.CHAR);
    private static final Set<String> CONSTANT_ARRAYS = Set.of("int[]", "long[]", "char[]", "byte[]");

    private static final int MOST_LINES = 60;
    private static final int MOST_PARAMETERS = 7;
    private static final int MOST_CLASSES = 12;
    private static final int MOST_FIELDS = 20;
    private static final int MOST_DEEP = 8;

    private final Trees trees;
    private final CompilationUnitTree unit;
    private final List<String> found = new ArrayList<>();
    private final Map<Element, Set<Element>> calls = new LinkedHashMap<>();
    private int classes;

    LanguageRules(Trees trees, CompilationUnitTree unit) {
        this.trees = trees;
        this.unit = unit;
    }

    List<String> broken() {
        if (unit.getPackageName() != null) {
            found.add("has a package line");
        }
        scan(unit, null);
        if (classes > MOST_CLASSES) {
            found.add("rule 11: " + classes + " classes");
        }
        for (Element method : calls.keySet()) {
            deepest(method, new LinkedHashSet<>());
        }
        return found;
    }

    private void note(Tree at, String what) {
        long line = unit.getLineMap().getLineNumber(trees.getSourcePositions().getStartPosition(unit, at));
        found.add(what + ", line " + line);
    }

    private Element elementOf(Tree tree) {
        return trees.getElement(new TreePath(getCurrentPath(), tree));
    }

    private TypeMirror typeOf(Tree tree) {
        return trees.getTypeMirror(new TreePath(getCurrentPath(), tree));
    }

    private <T extends Tree> T around(Class<T> kind) {
        for (TreePath path = getCurrentPath().getParentPath(); path != null; path = path.getParentPath()) {
            if (kind.isInstance(path.getLeaf())) {
                return kind.cast(path.getLeaf());
            }
        }
        return null;
    }

    private boolean isOwn(Element element) {
        return trees.getTree(element) != null;
    }

    // ---- rules 1 to 5: members, classes, types, library, static state

    @Override
    public Void visitClass(ClassTree tree, Void nothing) {
        classes++;
        long fields = tree.getMembers().stream().filter(each -> each instanceof VariableTree)
                .filter(each -> !((VariableTree) each).getModifiers().getFlags().contains(Modifier.STATIC)).count();
        if (fields > MOST_FIELDS) {
            note(tree, "rule 11: " + fields + " fields");
        }
        if (getCurrentPath().getParentPath().getLeaf() instanceof BlockTree) {
            note(tree, "rule 2: a local class");
        }
        for (Tree member : tree.getMembers()) {
            if (member instanceof BlockTree && ((BlockTree) member).isStatic()) {
                note(member, "rule 5: a static initialiser block");
            }
        }
        return super.visitClass(tree, nothing);
    }

    @Override
    public Void visitVariable(VariableTree tree, Void nothing) {
        Element element = trees.getElement(getCurrentPath());
        if (element instanceof VariableElement && element.getKind() == ElementKind.FIELD
                && element.getModifiers().contains(Modifier.STATIC)) {
            TypeMirror type = element.asType();
            boolean constant = CONSTANTS.contains(type.getKind()) || CONSTANT_ARRAYS.contains(type.toString())
                    || type.toString().equals("java.lang.String");
            if (!constant || !element.getModifiers().contains(Modifier.FINAL)) {
                note(tree, "rule 5: static " + tree.getName());
            }
        }
        return super.visitVariable(tree, nothing);
    }

    @Override
    public Void visitImport(ImportTree tree, Void nothing) {
        Element element = elementOf(tree.getQualifiedIdentifier());
        if (tree.isStatic() || !(element instanceof TypeElement) || !isListed(element)) {
            note(tree, "rule 4: import");
        }
        return null;
    }

    private static boolean isListed(Element type) {
        String name = type.getSimpleName().toString();
        return NUMBERS.contains(name) || LIBRARY.containsKey(name) || OTHER_TYPES.contains(name)
                || THROWN.contains(name);
    }

    @Override
    public Void visitIdentifier(IdentifierTree tree, Void nothing) {
        requireType(tree);
        return super.visitIdentifier(tree, nothing);
    }

    @Override
    public Void visitMemberSelect(MemberSelectTree tree, Void nothing) {
        requireType(tree);
        Element element = trees.getElement(getCurrentPath());
        boolean length = tree.getIdentifier().contentEquals("length")
                && typeOf(tree.getExpression()).getKind() == TypeKind.ARRAY;
        if (element instanceof VariableElement && !isOwn(element) && !length) {
            note(tree, "rule 4: " + tree);
        }
        return super.visitMemberSelect(tree, nothing);
    }

    private void requireType(Tree tree) {
        Element element = trees.getElement(getCurrentPath());
        boolean generic = element != null && element.getKind() == ElementKind.TYPE_PARAMETER;
        boolean type = element instanceof TypeElement && !generic;
        if (type && !isOwn(element) && !isListed(element)) {
            note(tree, "rules 3 and 4: " + tree);
        }
    }

    @Override
    public Void visitMethodInvocation(MethodInvocationTree tree, Void nothing) {
        Element element = trees.getElement(getCurrentPath());
        boolean constructor = element != null && element.getKind() == ElementKind.CONSTRUCTOR;
        if (element instanceof ExecutableElement && !constructor) {
            if (isOwn(element)) {
                call(element);
            } else {
                requireListed(tree, (ExecutableElement) element);
            }
        }
        return super.visitMethodInvocation(tree, nothing);
    }

    private void requireListed(MethodInvocationTree tree, ExecutableElement method) {
        String owner = method.getEnclosingElement().getSimpleName().toString();
        String name = method.getSimpleName().toString();
        if (NUMBERS.contains(owner)) {
            boolean whole = method.getParameters().stream().map(VariableElement::asType).map(TypeMirror::getKind)
                    .allMatch(kind -> kind == TypeKind.INT || kind == TypeKind.LONG);
            if (!whole || name.endsWith("Exact") || !method.getModifiers().contains(Modifier.STATIC)) {
                note(tree, "rule 4: " + owner + "." + name);
            } else if (name.equals("floorDiv") || name.equals("floorMod")) {
                requireDivisor(tree, tree.getArguments().get(1));
            }
            return;
        }
        boolean cloned = name.equals("clone") && tree.getMethodSelect() instanceof MemberSelectTree
                && typeOf(tree.getMethodSelect()) != null && owner.equals("Array");
        if (!cloned && !LIBRARY.getOrDefault(owner, Set.of()).contains(name)) {
            note(tree, "rule 4: " + owner + "." + name);
        }
    }

    // ---- rule 2 and rule 6: what may not stand there at all

    @Override
    public Void visitLambdaExpression(LambdaExpressionTree tree, Void nothing) {
        note(tree, "rule 2: a lambda");
        return super.visitLambdaExpression(tree, nothing);
    }

    @Override
    public Void visitMemberReference(MemberReferenceTree tree, Void nothing) {
        note(tree, "rule 2: a method reference");
        return super.visitMemberReference(tree, nothing);
    }

    @Override
    public Void visitAssert(AssertTree tree, Void nothing) {
        note(tree, "rule 6: assert");
        return super.visitAssert(tree, nothing);
    }

    @Override
    public Void visitSynchronized(SynchronizedTree tree, Void nothing) {
        note(tree, "rule 6: synchronized");
        return super.visitSynchronized(tree, nothing);
    }

    @Override
    public Void visitTry(TryTree tree, Void nothing) {
        if (tree.getFinallyBlock() != null || !tree.getResources().isEmpty()) {
            note(tree, "rule 6: finally, or try with resources");
        }
        return super.visitTry(tree, nothing);
    }

    @Override
    public Void visitCatch(CatchTree tree, Void nothing) {
        note(tree, "rule 6: a catch, of which this project has no need");
        return super.visitCatch(tree, nothing);
    }

    @Override
    public Void visitAnnotation(AnnotationTree tree, Void nothing) {
        note(tree, "rule 4: an annotation");
        return null;
    }

    @Override
    public Void visitThrow(ThrowTree tree, Void nothing) {
        ExpressionTree thrown = tree.getExpression();
        boolean right = thrown instanceof NewClassTree
                && THROWN.contains(((NewClassTree) thrown).getIdentifier().toString())
                && ((NewClassTree) thrown).getArguments().size() <= 1
                && ((NewClassTree) thrown).getArguments().stream()
                        .allMatch(each -> each.getKind() == Tree.Kind.STRING_LITERAL);
        if (!right) {
            note(tree, "rule 6: " + tree);
        }
        MethodTree method = around(MethodTree.class);
        if (method != null && method.getReturnType() == null) {
            note(tree, "rule 6: a throw in a constructor");
        }
        return super.visitThrow(tree, nothing);
    }

    // ---- rule 7: divisors, indexes, casts

    @Override
    public Void visitBinary(BinaryTree tree, Void nothing) {
        if (tree.getKind() == Tree.Kind.DIVIDE || tree.getKind() == Tree.Kind.REMAINDER) {
            requireDivisor(tree, tree.getRightOperand());
        }
        TypeMirror type = trees.getTypeMirror(getCurrentPath());
        if (tree.getKind() == Tree.Kind.PLUS && type != null && type.getKind() == TypeKind.DECLARED) {
            note(tree, "rule 10: texts joined by +");
        }
        return super.visitBinary(tree, nothing);
    }

    @Override
    public Void visitCompoundAssignment(CompoundAssignmentTree tree, Void nothing) {
        if (tree.getKind() == Tree.Kind.DIVIDE_ASSIGNMENT || tree.getKind() == Tree.Kind.REMAINDER_ASSIGNMENT) {
            requireDivisor(tree, tree.getExpression());
        }
        if (tree.getKind() == Tree.Kind.PLUS_ASSIGNMENT && typeOf(tree.getVariable()).getKind() == TypeKind.DECLARED) {
            note(tree, "rule 10: texts joined by +");
        }
        return super.visitCompoundAssignment(tree, nothing);
    }

    /** A divisor is written out, a constant, or held against 0 in the same method. */
    private void requireDivisor(Tree at, ExpressionTree divisor) {
        ExpressionTree bare = divisor;
        while (bare instanceof TypeCastTree) {
            bare = ((TypeCastTree) bare).getExpression();
        }
        boolean written = bare.getKind() == Tree.Kind.INT_LITERAL || bare.getKind() == Tree.Kind.LONG_LITERAL;
        Element element = trees.getElement(new TreePath(getCurrentPath(), bare));
        boolean constant = element instanceof VariableElement
                && ((VariableElement) element).getConstantValue() != null;
        boolean tested = isComparedIn(around(MethodTree.class), bare.toString(), "(==|!=|>) 0\\b");
        if (!written && !constant && !tested) {
            note(at, "rule 7: the divisor " + divisor);
        }
    }

    @Override
    public Void visitArrayAccess(ArrayAccessTree tree, Void nothing) {
        String length = Pattern.quote(tree.getExpression() + ".length");
        if (!isComparedIn(around(MethodTree.class), tree.getIndex().toString(), "< " + length)) {
            note(tree, "rule 7: the index of " + tree);
        }
        return super.visitArrayAccess(tree, nothing);
    }

    private static boolean isComparedIn(MethodTree method, String value, String comparison) {
        String text = method == null ? "" : method.getBody().toString();
        return Pattern.compile("(?<![\\w.])" + Pattern.quote(value) + " " + comparison).matcher(text).find();
    }

    @Override
    public Void visitTypeCast(TypeCastTree tree, Void nothing) {
        if (!typeOf(tree.getType()).getKind().isPrimitive()) {
            note(tree, "rule 6: a cast, of which this project has no need");
        }
        return super.visitTypeCast(tree, nothing);
    }

    @Override
    public Void visitInstanceOf(InstanceOfTree tree, Void nothing) {
        note(tree, "rule 6: instanceof, of which this project has no need");
        return super.visitInstanceOf(tree, nothing);
    }

    // ---- rule 9: only a loop with a bound has an end that its lines show

    @Override
    public Void visitWhileLoop(WhileLoopTree tree, Void nothing) {
        if (!tree.getCondition().toString().contains("<")) {
            note(tree, "rule 9: a loop without a counter against a bound");
        }
        return super.visitWhileLoop(tree, nothing);
    }

    // ---- rules 8 and 11: methods and their calls

    @Override
    public Void visitMethod(MethodTree tree, Void nothing) {
        Element element = trees.getElement(getCurrentPath());
        calls.computeIfAbsent(element, key -> new LinkedHashSet<>());
        if (tree.getParameters().size() > MOST_PARAMETERS) {
            note(tree, "rule 11: " + tree.getParameters().size() + " parameters");
        }
        long start = trees.getSourcePositions().getStartPosition(unit, tree);
        long end = trees.getSourcePositions().getEndPosition(unit, tree);
        if (end >= 0) {
            long lines = unit.getLineMap().getLineNumber(end) - unit.getLineMap().getLineNumber(start) + 1;
            if (lines > MOST_LINES) {
                note(tree, "rule 11: " + lines + " lines");
            }
        }
        if (INHERITED.contains(tree.getName().toString())) {
            note(tree, "rule 6: " + tree.getName());
        }
        return super.visitMethod(tree, nothing);
    }

    private void call(Element called) {
        MethodTree method = around(MethodTree.class);
        if (method != null) {
            Element caller = trees.getElement(trees.getPath(unit, method));
            calls.computeIfAbsent(caller, key -> new LinkedHashSet<>()).add(called);
        }
    }

    private void deepest(Element method, Set<Element> open) {
        if (!open.add(method)) {
            found.add("rule 8: " + method + " calls itself, of which this project has no need");
            return;
        }
        if (open.size() > MOST_DEEP) {
            found.add("rule 11: calls too deep: " + open);
        } else {
            for (Element called : calls.getOrDefault(method, Set.of())) {
                deepest(called, open);
            }
        }
        open.remove(method);
    }

    // ---- rule 12: what a run makes

    @Override
    public Void visitNewClass(NewClassTree tree, Void nothing) {
        requireMaker(tree, getCurrentPath().getParentPath().getLeaf() instanceof ThrowTree);
        return super.visitNewClass(tree, nothing);
    }

    @Override
    public Void visitNewArray(NewArrayTree tree, Void nothing) {
        requireMaker(tree, false);
        return super.visitNewArray(tree, nothing);
    }

    private void requireMaker(Tree tree, boolean thrown) {
        MethodTree method = around(MethodTree.class);
        boolean constructor = method != null && method.getReturnType() == null;
        if (method != null && !constructor && !thrown) {
            note(tree, "rule 12: made by a call: " + tree);
        }
    }
}
