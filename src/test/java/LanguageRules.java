import com.sun.source.tree.ArrayAccessTree;
import com.sun.source.tree.AssertTree;
import com.sun.source.tree.AssignmentTree;
import com.sun.source.tree.BinaryTree;
import com.sun.source.tree.BlockTree;
import com.sun.source.tree.ClassTree;
import com.sun.source.tree.CompilationUnitTree;
import com.sun.source.tree.CompoundAssignmentTree;
import com.sun.source.tree.ConditionalExpressionTree;
import com.sun.source.tree.DoWhileLoopTree;
import com.sun.source.tree.ExpressionTree;
import com.sun.source.tree.ForLoopTree;
import com.sun.source.tree.IdentifierTree;
import com.sun.source.tree.IfTree;
import com.sun.source.tree.ImportTree;
import com.sun.source.tree.LambdaExpressionTree;
import com.sun.source.tree.MemberReferenceTree;
import com.sun.source.tree.MemberSelectTree;
import com.sun.source.tree.MethodInvocationTree;
import com.sun.source.tree.MethodTree;
import com.sun.source.tree.NewClassTree;
import com.sun.source.tree.SynchronizedTree;
import com.sun.source.tree.ThrowTree;
import com.sun.source.tree.Tree;
import com.sun.source.tree.TryTree;
import com.sun.source.tree.TypeCastTree;
import com.sun.source.tree.UnaryTree;
import com.sun.source.tree.VariableTree;
import com.sun.source.tree.WhileLoopTree;
import com.sun.source.util.JavacTask;
import com.sun.source.util.TreePath;
import com.sun.source.util.TreePathScanner;
import com.sun.source.util.Trees;
import java.io.IOException;
import java.net.URI;
import java.util.ArrayList;
import java.util.HashMap;
import java.util.LinkedHashSet;
import java.util.List;
import java.util.Map;
import java.util.Set;
import javax.lang.model.element.Element;
import javax.lang.model.element.ElementKind;
import javax.lang.model.element.ExecutableElement;
import javax.lang.model.element.Modifier;
import javax.lang.model.element.VariableElement;
import javax.lang.model.type.ArrayType;
import javax.lang.model.type.DeclaredType;
import javax.lang.model.type.TypeKind;
import javax.lang.model.type.TypeMirror;
import javax.tools.JavaFileObject;
import javax.tools.SimpleJavaFileObject;
import javax.tools.ToolProvider;

/**
 * Reads a program as the compiler does and tells what in it lies outside ../shared/LANGUAGE.md, with the rule's number.
 * It is stricter than the rules where that is plainer: each loop must count up to a bound, and a name that is an index
 * or a divisor must stand in a condition of the same method.
 */
final class LanguageRules extends TreePathScanner<Void, Void> {
    private static final Set<String> LIBRARY = Set.of(
        "String.length", "String.charAt", "String.isEmpty", "String.equals", "String.indexOf", "String.substring",
        "String.toCharArray", "StringBuilder.append", "StringBuilder.charAt", "StringBuilder.setCharAt",
        "StringBuilder.setLength", "StringBuilder.deleteCharAt", "StringBuilder.reverse", "StringBuilder.length",
        "StringBuilder.toString", "List.add", "List.get", "List.set", "List.remove", "List.size", "List.isEmpty",
        "List.clear", "List.of", "ArrayList.add", "ArrayList.get", "ArrayList.set", "ArrayList.remove",
        "ArrayList.size", "ArrayList.isEmpty", "ArrayList.clear", "Math.abs", "Math.max", "Math.min", "Math.floorDiv",
        "Math.floorMod", "Integer.compare", "Integer.bitCount", "Long.compare", "Long.bitCount", "System.arraycopy",
        "Arrays.copyOf", "Arrays.copyOfRange", "Arrays.fill");
    private static final Set<String> MADE = Set.of("ArrayList", "StringBuilder", "String");
    private static final Set<String> IMPORTS = Set.of("java.util.ArrayList", "java.util.Arrays", "java.util.List",
        "java.util.Iterator");
    private static final Set<String> TYPES = Set.of("String", "StringBuilder", "Integer", "ArrayList", "List", "Iterator",
        "Iterable", "Comparable");
    private static final int MOST_PARAMETERS = 7, MOST_LINES = 60, MOST_DEEP = 8, MOST_CLASSES = 12, MOST_FIELDS = 20;

    private final List<String> faults = new ArrayList<>();
    private final Map<ExecutableElement, Set<ExecutableElement>> calls = new HashMap<>();
    private final Set<String> publicNames = new LinkedHashSet<>();
    private final List<MethodTree> privateMethods = new ArrayList<>();
    private final Trees trees;
    private final CompilationUnitTree unit;
    private int classes = 0;

    private LanguageRules(Trees trees, CompilationUnitTree unit) {
        this.trees = trees;
        this.unit = unit;
    }

    private static final class Text extends SimpleJavaFileObject {
        private final String text;

        Text(String name, String text) {
            super(URI.create("string:///" + name + ".java"), JavaFileObject.Kind.SOURCE);
            this.text = text;
        }

        @Override
        public CharSequence getCharContent(boolean ignoreEncodingErrors) {
            return text;
        }
    }

    /** What lies outside the rules in the text of a class; a text that does not compile is outside them, too. */
    static List<String> faultsOf(String name, String text) throws IOException {
        List<String> errors = new ArrayList<>();
        JavacTask task = (JavacTask) ToolProvider.getSystemJavaCompiler().getTask(null, null,
            d -> errors.add(d.toString()), List.of("-proc:none"), null, List.of(new Text(name, text)));
        CompilationUnitTree unit = task.parse().iterator().next();
        task.analyze();
        if (!errors.isEmpty()) {
            return errors;
        }
        LanguageRules rules = new LanguageRules(Trees.instance(task), unit);
        if (!text.chars().allMatch(c -> c >= 1 && c <= 127)) {
            rules.faults.add("rule 4: a sign beyond 127");
        }
        rules.scan(unit, null);
        rules.lookAtTheWhole();
        return rules.faults;
    }

    private void fault(int rule, String what, Tree at) {
        long line = unit.getLineMap().getLineNumber(trees.getSourcePositions().getStartPosition(unit, at));
        faults.add("rule " + rule + ", line " + line + ": " + what);
    }

    private void lookAtTheWhole() {
        if (unit.getPackageName() != null || unit.getTypeDecls().size() != 1) {
            faults.add("rule 1: one class without a package");
        }
        if (classes > MOST_CLASSES) {
            faults.add("rule 11: " + classes + " classes");
        }
        for (MethodTree method : privateMethods) {
            if (publicNames.contains(method.getName().toString())) {
                fault(1, "a private method bears a public one's name: " + method.getName(), method);
            }
        }
        for (ExecutableElement method : calls.keySet()) {
            if (depthFrom(method, 1) > MOST_DEEP) {
                faults.add("rule 11: calls from " + method + " go too deep, or come back (rule 8)");
            }
        }
    }

    /** How many calls stand open at most; a recursion is deeper than every bound. */
    private int depthFrom(ExecutableElement method, int open) {
        int most = open;
        if (open <= MOST_DEEP) {
            for (ExecutableElement called : calls.getOrDefault(method, Set.of())) {
                most = Math.max(most, depthFrom(called, open + 1));
            }
        }
        return most;
    }

    // ---- classes, fields and methods

    @Override
    public Void visitImport(ImportTree tree, Void p) {
        if (tree.isStatic() || !IMPORTS.contains(tree.getQualifiedIdentifier().toString())) {
            fault(4, "import of " + tree.getQualifiedIdentifier(), tree);
        }
        return null;
    }

    @Override
    public Void visitClass(ClassTree tree, Void p) {
        classes++;
        Set<Modifier> flags = tree.getModifiers().getFlags();
        Tree parent = getCurrentPath().getParentPath().getLeaf();
        if (parent instanceof CompilationUnitTree) {
            if (!flags.contains(Modifier.PUBLIC) || !flags.contains(Modifier.FINAL)) {
                fault(1, "the class is public and final", tree);
            }
        } else if (!(parent instanceof ClassTree)) {
            fault(2, "a local or anonymous class", tree);
        } else if (flags.contains(Modifier.PUBLIC) || flags.contains(Modifier.PROTECTED)) {
            fault(2, "a class inside is private or package-visible", tree);
        } else if (tree.getKind() == Tree.Kind.CLASS && !flags.contains(Modifier.STATIC)) {
            fault(2, "an inner class that is not static", tree);
        }
        int fields = 0;
        for (Tree member : tree.getMembers()) {
            if (member instanceof BlockTree) {
                fault(5, "an initialiser block", member);
            }
            if (member instanceof VariableTree && !((VariableTree) member).getModifiers().getFlags().contains(Modifier.STATIC)) {
                fields++;
            }
        }
        if (fields > MOST_FIELDS) {
            fault(11, fields + " fields", tree);
        }
        return super.visitClass(tree, p);
    }

    @Override
    public Void visitVariable(VariableTree tree, Void p) {
        TypeMirror type = trees.getTypeMirror(getCurrentPath());
        lookAtType(type, tree);
        Set<Modifier> flags = tree.getModifiers().getFlags();
        if (flags.contains(Modifier.VOLATILE) || flags.contains(Modifier.TRANSIENT)) {
            fault(6, "a field of threads or streams", tree);
        }
        if (flags.contains(Modifier.STATIC)) {
            boolean array = type instanceof ArrayType;
            String name = (array ? ((ArrayType) type).getComponentType() : type).toString();
            Set<String> allowed = array ? Set.of("int", "long", "char", "byte")
                : Set.of("int", "long", "boolean", "char", "java.lang.String");
            if (!flags.contains(Modifier.FINAL) || !allowed.contains(name) || tree.getInitializer() == null) {
                fault(5, "static " + tree.getName(), tree);
            }
        }
        Tree parent = getCurrentPath().getParentPath().getLeaf();
        boolean outermost = parent instanceof ClassTree && getCurrentPath().getParentPath().getParentPath().getLeaf() == unit;
        if (outermost && !flags.contains(Modifier.PRIVATE) && !flags.contains(Modifier.STATIC)) {
            fault(1, "a field that can be seen: " + tree.getName(), tree);
        }
        return super.visitVariable(tree, p);
    }

    private void lookAtType(TypeMirror type, Tree at) {
        if (type == null || type.getKind().isPrimitive() || type.getKind() == TypeKind.VOID) {
            return;
        }
        if (type instanceof ArrayType) {
            TypeMirror of = ((ArrayType) type).getComponentType();
            boolean rows = of instanceof ArrayType;
            TypeMirror inRows = rows ? ((ArrayType) of).getComponentType() : of;
            if (rows && (!inRows.getKind().isPrimitive() || inRows.getKind() == TypeKind.BOOLEAN)) {
                fault(3, "rows of " + inRows, at);
            }
            lookAtType(inRows, at);
        } else if (type instanceof DeclaredType) {
            Element element = ((DeclaredType) type).asElement();
            if (!isOwn(element) && !TYPES.contains(element.getSimpleName().toString())) {
                fault(3, "the type " + type, at);
            }
            for (TypeMirror part : ((DeclaredType) type).getTypeArguments()) {
                lookAtType(part, at);
            }
        }
    }

    @Override
    public Void visitMethod(MethodTree tree, Void p) {
        ExecutableElement method = (ExecutableElement) trees.getElement(getCurrentPath());
        Set<Modifier> flags = tree.getModifiers().getFlags();
        if (flags.contains(Modifier.PUBLIC)) {
            publicNames.add(tree.getName().toString());
        } else if (flags.contains(Modifier.PRIVATE) && method.getKind() == ElementKind.METHOD) {
            privateMethods.add(tree);
        }
        if (flags.contains(Modifier.SYNCHRONIZED) || flags.contains(Modifier.NATIVE)) {
            fault(6, "a method of threads or of another language", tree);
        }
        if (Set.of("equals", "hashCode", "toString").contains(tree.getName().toString())) {
            fault(6, "own " + tree.getName(), tree);
        }
        if (tree.getParameters().size() > MOST_PARAMETERS) {
            fault(11, tree.getParameters().size() + " parameters", tree);
        }
        if (linesOf(tree) > MOST_LINES) {
            fault(11, linesOf(tree) + " lines", tree);
        }
        if (!tree.getThrows().isEmpty()) {
            fault(6, "throws", tree);
        }
        lookAtType(method.getReturnType(), tree);
        calls.computeIfAbsent(method, m -> new LinkedHashSet<>());
        return super.visitMethod(tree, p);
    }

    private long linesOf(Tree tree) {
        long begin = trees.getSourcePositions().getStartPosition(unit, tree);
        long end = trees.getSourcePositions().getEndPosition(unit, tree);
        return unit.getLineMap().getLineNumber(end) - unit.getLineMap().getLineNumber(begin) + 1;
    }

    // ---- calls and the library

    /** Whether it stands in the file. */
    private boolean isOwn(Element element) {
        return trees.getPath(element) != null;
    }

    @Override
    public Void visitMethodInvocation(MethodInvocationTree tree, Void p) {
        ExecutableElement called = (ExecutableElement) trees.getElement(getCurrentPath());
        if (isOwn(called)) {
            noteCall(called);
            if (methodAround() != null && methodAround().getKind() == ElementKind.CONSTRUCTOR
                && called.getKind() == ElementKind.METHOD && !called.getModifiers().contains(Modifier.STATIC)) {
                fault(12, "a constructor calls " + called, tree);
            }
        } else if (called.getKind() == ElementKind.METHOD) {
            lookAtLibrary(called, tree);
        }
        return super.visitMethodInvocation(tree, p);
    }

    private void lookAtLibrary(ExecutableElement called, MethodInvocationTree tree) {
        String name = called.getEnclosingElement().getSimpleName() + "." + called.getSimpleName();
        boolean cloned = called.getSimpleName().contentEquals("clone");
        if (!LIBRARY.contains(name) && !cloned) {
            fault(4, "the library's " + name, tree);
        }
        if (Set.of("List.get", "List.set", "List.remove", "ArrayList.get", "ArrayList.set", "ArrayList.remove").contains(name)) {
            lookedAtBefore(tree.getArguments().get(0), tree);
        }
    }

    @Override
    public Void visitNewClass(NewClassTree tree, Void p) {
        Element made = trees.getElement(getCurrentPath());
        if (isOwn(made)) {
            noteCall((ExecutableElement) made);
        } else if (!MADE.contains(made.getEnclosingElement().getSimpleName().toString())) {
            fault(4, "a new " + tree.getIdentifier(), tree);
        }
        return super.visitNewClass(tree, p);
    }

    private ExecutableElement methodAround() {
        for (TreePath path = getCurrentPath(); path != null; path = path.getParentPath()) {
            if (path.getLeaf() instanceof MethodTree) {
                return (ExecutableElement) trees.getElement(path);
            }
        }
        return null;
    }

    private void noteCall(ExecutableElement called) {
        ExecutableElement caller = methodAround();
        if (caller != null) {
            calls.computeIfAbsent(caller, m -> new LinkedHashSet<>()).add(called);
        }
    }

    @Override
    public Void visitMemberSelect(MemberSelectTree tree, Void p) {
        Element element = trees.getElement(getCurrentPath());
        boolean length = tree.getIdentifier().contentEquals("length");
        if (element != null && element.getKind() == ElementKind.FIELD && !length && !isOwn(element)) {
            fault(4, "the library's field " + tree, tree);
        }
        return super.visitMemberSelect(tree, p);
    }

    // ---- what is not in the language

    @Override
    public Void visitThrow(ThrowTree tree, Void p) {
        fault(6, "throw", tree);
        return super.visitThrow(tree, p);
    }

    @Override
    public Void visitTry(TryTree tree, Void p) {
        fault(6, "try", tree);
        return super.visitTry(tree, p);
    }

    @Override
    public Void visitSynchronized(SynchronizedTree tree, Void p) {
        fault(6, "synchronized", tree);
        return super.visitSynchronized(tree, p);
    }

    @Override
    public Void visitAssert(AssertTree tree, Void p) {
        fault(6, "assert", tree);
        return super.visitAssert(tree, p);
    }

    @Override
    public Void visitLambdaExpression(LambdaExpressionTree tree, Void p) {
        fault(2, "a lambda", tree);
        return super.visitLambdaExpression(tree, p);
    }

    @Override
    public Void visitMemberReference(MemberReferenceTree tree, Void p) {
        fault(2, "a method reference", tree);
        return super.visitMemberReference(tree, p);
    }

    @Override
    public Void visitTypeCast(TypeCastTree tree, Void p) {
        if (!trees.getTypeMirror(new TreePath(getCurrentPath(), tree.getType())).getKind().isPrimitive()) {
            fault(6, "a cast of a reference", tree);
        }
        return super.visitTypeCast(tree, p);
    }

    // ---- loops, indices, divisors

    @Override
    public Void visitWhileLoop(WhileLoopTree tree, Void p) {
        fault(9, "a while without a counter of its own", tree);
        return super.visitWhileLoop(tree, p);
    }

    @Override
    public Void visitDoWhileLoop(DoWhileLoopTree tree, Void p) {
        fault(9, "a do without a counter of its own", tree);
        return super.visitDoWhileLoop(tree, p);
    }

    @Override
    public Void visitForLoop(ForLoopTree tree, Void p) {
        String counter = tree.getUpdate().size() == 1 ? tree.getUpdate().get(0).getExpression().toString() : "";
        boolean countsUp = counter.endsWith("++");
        String name = countsUp ? counter.substring(0, counter.length() - 2) : counter;
        if (!countsUp || !boundIsOf(name, tree.getCondition()) || isChangedIn(name, tree.getStatement())) {
            fault(9, "a for that does not plainly count up to a bound", tree);
        }
        return super.visitForLoop(tree, p);
    }

    private static boolean boundIsOf(String counter, ExpressionTree condition) {
        if (!(condition instanceof BinaryTree)) {
            return false;
        }
        BinaryTree test = (BinaryTree) condition;
        switch (test.getKind()) {
            case CONDITIONAL_AND: return boundIsOf(counter, test.getLeftOperand()) || boundIsOf(counter, test.getRightOperand());
            case LESS_THAN: case LESS_THAN_EQUAL: return test.getLeftOperand().toString().equals(counter);
            default: return false;
        }
    }

    private boolean isChangedIn(String name, Tree body) {
        boolean[] changed = {false};
        new TreePathScanner<Void, Void>() {
            @Override
            public Void visitAssignment(AssignmentTree tree, Void p) {
                changed[0] |= tree.getVariable().toString().equals(name);
                return super.visitAssignment(tree, p);
            }

            @Override
            public Void visitCompoundAssignment(CompoundAssignmentTree tree, Void p) {
                changed[0] |= tree.getVariable().toString().equals(name);
                return super.visitCompoundAssignment(tree, p);
            }

            @Override
            public Void visitUnary(UnaryTree tree, Void p) {
                boolean steps = tree.getKind().toString().endsWith("CREMENT");
                changed[0] |= steps && tree.getExpression().toString().equals(name);
                return super.visitUnary(tree, p);
            }
        }.scan(new TreePath(new TreePath(unit), body), null);
        return changed[0];
    }

    @Override
    public Void visitArrayAccess(ArrayAccessTree tree, Void p) {
        lookedAtBefore(tree.getIndex(), tree);
        return super.visitArrayAccess(tree, p);
    }

    @Override
    public Void visitBinary(BinaryTree tree, Void p) {
        if (tree.getKind() == Tree.Kind.DIVIDE || tree.getKind() == Tree.Kind.REMAINDER) {
            lookedAtBefore(tree.getRightOperand(), tree);
        }
        boolean same = tree.getKind() == Tree.Kind.EQUAL_TO || tree.getKind() == Tree.Kind.NOT_EQUAL_TO;
        if ((same || tree.getKind() == Tree.Kind.PLUS) && (isText(tree.getLeftOperand()) || isText(tree.getRightOperand()))) {
            fault(6, "signs between Strings", tree);
        }
        return super.visitBinary(tree, p);
    }

    private boolean isText(ExpressionTree tree) {
        TypeMirror type = trees.getTypeMirror(new TreePath(getCurrentPath(), tree));
        return type != null && Set.of("java.lang.String", "java.lang.Integer").contains(type.toString());
    }

    @Override
    public Void visitAssignment(AssignmentTree tree, Void p) {
        lookAtStaticArray(tree.getVariable());
        return super.visitAssignment(tree, p);
    }

    @Override
    public Void visitCompoundAssignment(CompoundAssignmentTree tree, Void p) {
        lookAtStaticArray(tree.getVariable());
        if (tree.getKind() == Tree.Kind.DIVIDE_ASSIGNMENT || tree.getKind() == Tree.Kind.REMAINDER_ASSIGNMENT) {
            lookedAtBefore(tree.getExpression(), tree);
        }
        return super.visitCompoundAssignment(tree, p);
    }

    @Override
    public Void visitUnary(UnaryTree tree, Void p) {
        if (tree.getKind().toString().endsWith("CREMENT")) {
            lookAtStaticArray(tree.getExpression());
        }
        return super.visitUnary(tree, p);
    }

    private void lookAtStaticArray(ExpressionTree changed) {
        if (changed instanceof ArrayAccessTree) {
            Element row = trees.getElement(new TreePath(getCurrentPath(), ((ArrayAccessTree) changed).getExpression()));
            if (row != null && row.getModifiers().contains(Modifier.STATIC)) {
                fault(5, "a static array is changed", changed);
            }
        }
    }

    /** A constant is as good as looked at; of a name it must be seen in a condition that begins before it. */
    private void lookedAtBefore(ExpressionTree number, Tree use) {
        if (isConstant(number)) {
            return;
        }
        if (!(number instanceof IdentifierTree) || !isInConditionBefore(number.toString(), use)) {
            fault(7, number + " is not looked at before it is used", use);
        }
    }

    private boolean isConstant(ExpressionTree number) {
        if (number.getKind() == Tree.Kind.INT_LITERAL) {
            return !number.toString().equals("0");
        }
        Element element = trees.getElement(new TreePath(getCurrentPath(), number));
        Object value = element instanceof VariableElement
            ? ((VariableElement) element).getConstantValue() : null;
        return value instanceof Integer && (Integer) value != 0;
    }

    private boolean isInConditionBefore(String name, Tree use) {
        TreePath path = getCurrentPath();
        while (path != null && !(path.getLeaf() instanceof MethodTree)) {
            path = path.getParentPath();
        }
        if (path == null) {
            return false;
        }
        long before = trees.getSourcePositions().getStartPosition(unit, use);
        boolean[] seen = {false};
        new TreePathScanner<Void, Void>() {
            private void look(Tree condition) {
                if (condition != null && trees.getSourcePositions().getStartPosition(unit, condition) < before) {
                    seen[0] |= condition.toString().matches("(?s).*\\b" + name + "\\b.*");
                }
            }

            @Override
            public Void visitIf(IfTree tree, Void p) {
                look(tree.getCondition());
                return super.visitIf(tree, p);
            }

            @Override
            public Void visitForLoop(ForLoopTree tree, Void p) {
                look(tree.getCondition());
                return super.visitForLoop(tree, p);
            }

            @Override
            public Void visitConditionalExpression(ConditionalExpressionTree tree, Void p) {
                look(tree.getCondition());
                return super.visitConditionalExpression(tree, p);
            }

            @Override
            public Void visitBinary(BinaryTree tree, Void p) {
                if (tree.getKind() == Tree.Kind.CONDITIONAL_AND || tree.getKind() == Tree.Kind.CONDITIONAL_OR) {
                    look(tree.getLeftOperand());
                }
                return super.visitBinary(tree, p);
            }
        }.scan(path, null);
        return seen[0];
    }
}
