import com.sun.source.tree.AssertTree;
import com.sun.source.tree.BinaryTree;
import com.sun.source.tree.BlockTree;
import com.sun.source.tree.ClassTree;
import com.sun.source.tree.CompilationUnitTree;
import com.sun.source.tree.CompoundAssignmentTree;
import com.sun.source.tree.DoWhileLoopTree;
import com.sun.source.tree.ExpressionTree;
import com.sun.source.tree.ForLoopTree;
import com.sun.source.tree.ImportTree;
import com.sun.source.tree.LambdaExpressionTree;
import com.sun.source.tree.LiteralTree;
import com.sun.source.tree.MemberReferenceTree;
import com.sun.source.tree.MemberSelectTree;
import com.sun.source.tree.MethodInvocationTree;
import com.sun.source.tree.MethodTree;
import com.sun.source.tree.NewArrayTree;
import com.sun.source.tree.NewClassTree;
import com.sun.source.tree.SynchronizedTree;
import com.sun.source.tree.ThrowTree;
import com.sun.source.tree.Tree;
import com.sun.source.tree.TryTree;
import com.sun.source.tree.TypeCastTree;
import com.sun.source.tree.VariableTree;
import com.sun.source.tree.WhileLoopTree;
import com.sun.source.util.JavacTask;
import com.sun.source.util.TreePath;
import com.sun.source.util.TreePathScanner;
import com.sun.source.util.Trees;
import java.io.IOException;
import java.io.StringWriter;
import java.net.URI;
import java.util.ArrayList;
import java.util.LinkedHashMap;
import java.util.LinkedHashSet;
import java.util.List;
import java.util.Map;
import java.util.Set;
import java.util.stream.Collectors;
import javax.lang.model.element.Element;
import javax.lang.model.element.ElementKind;
import javax.lang.model.element.ExecutableElement;
import javax.lang.model.element.Modifier;
import javax.lang.model.element.TypeElement;
import javax.lang.model.type.ArrayType;
import javax.lang.model.type.DeclaredType;
import javax.lang.model.type.TypeKind;
import javax.lang.model.type.TypeMirror;
import javax.lang.model.util.ElementFilter;
import javax.tools.JavaFileObject;
import javax.tools.SimpleJavaFileObject;
import javax.tools.ToolProvider;

/** The rules of LANGUAGE.md, as far as a program can see in a source whether they are kept; by their numbers. */
final class LanguageRules extends TreePathScanner<Void, Void> {
    private static final int CLASSES = 12, FIELDS = 20, PARAMETERS = 7, LINES = 60, DEEP = 8;
    private static final Set<String> IMPORTS = Set.of("java.util.ArrayList", "java.util.List", "java.util.Arrays",
        "java.util.Iterator");
    private static final Set<String> LIBRARY_TYPES = Set.of("java.lang.String", "java.lang.StringBuilder",
        "java.lang.Integer", "java.util.ArrayList", "java.util.List", "java.util.Iterator");
    private static final Set<String> OF_LISTS = Set.of("add", "get", "set", "remove", "size", "isEmpty", "clear", "of");
    private static final Set<String> OF_NUMBERS = Set.of("compare", "max", "min", "abs", "bitCount", "floorDiv",
        "floorMod", "signum", "numberOfTrailingZeros", "numberOfLeadingZeros", "highestOneBit", "lowestOneBit");
    private static final Map<String, Set<String>> LIBRARY = Map.of(
        "java.lang.String", Set.of("length", "charAt", "isEmpty", "equals", "indexOf", "substring", "toCharArray"),
        "java.lang.StringBuilder", Set.of("append", "charAt", "setCharAt", "setLength", "deleteCharAt", "reverse",
            "length", "toString"),
        "java.lang.AbstractStringBuilder", Set.of("length", "charAt", "setCharAt", "setLength"),
        "java.util.ArrayList", OF_LISTS,
        "java.util.List", OF_LISTS,
        "java.lang.Math", OF_NUMBERS,
        "java.lang.Integer", OF_NUMBERS,
        "java.lang.Long", OF_NUMBERS,
        "java.lang.System", Set.of("arraycopy"),
        "java.util.Arrays", Set.of("copyOf", "copyOfRange", "fill"));

    record Breach(int rule, String what) {
    }

    private record Call(ExecutableElement called, TypeElement receiver, boolean exact) {
    }

    private final List<Breach> breaches = new ArrayList<>();
    private final JavacTask task;
    private final Trees trees;
    private final CompilationUnitTree unit;
    private final List<TypeElement> classes = new ArrayList<>();
    private final Map<ExecutableElement, List<Call>> calls = new LinkedHashMap<>();
    private final Set<String> face = new LinkedHashSet<>();

    private LanguageRules(JavacTask task, CompilationUnitTree unit) {
        this.task = task;
        this.unit = unit;
        trees = Trees.instance(task);
    }

    /** What does not keep to the rules; a source that is not Java, or names what there is not, breaks rule 0. */
    static List<Breach> breaches(String source) throws IOException {
        JavaFileObject file = new SimpleJavaFileObject(URI.create("string:///PadPolish.java"), JavaFileObject.Kind.SOURCE) {
            @Override
            public CharSequence getCharContent(boolean ignoreEncodingErrors) {
                return source;
            }
        };
        StringWriter complaints = new StringWriter();
        JavacTask task = (JavacTask) ToolProvider.getSystemJavaCompiler()
            .getTask(complaints, null, null, List.of("-proc:none"), null, List.of(file));
        CompilationUnitTree unit = task.parse().iterator().next();
        task.analyze();
        LanguageRules rules = new LanguageRules(task, unit);
        if (complaints.toString().contains("error:")) {
            rules.breaks(0, complaints.toString());
            return rules.breaches;
        }
        rules.scan(unit, null);
        rules.callsGoNotTooDeep();
        return rules.breaches;
    }

    private void breaks(int rule, String what) {
        breaches.add(new Breach(rule, what));
    }

    private void breaksIf(boolean broken, int rule, String what) {
        if (broken) {
            breaks(rule, what);
        }
    }

    private Element elementHere() {
        return trees.getElement(getCurrentPath());
    }

    private TypeMirror typeOf(Tree tree) {
        return trees.getTypeMirror(new TreePath(getCurrentPath(), tree));
    }

    // ---- rules 1, 2, 5, 11: classes, their fields and methods

    @Override
    public Void visitCompilationUnit(CompilationUnitTree tree, Void none) {
        breaksIf(tree.getPackageName() != null, 1, "a package line");
        breaksIf(tree.getTypeDecls().size() != 1, 1, "classes beside the one");
        for (Tree type : tree.getTypeDecls()) {
            Element one = trees.getElement(new TreePath(getCurrentPath(), type));
            breaksIf(!one.getModifiers().equals(Set.of(Modifier.PUBLIC, Modifier.FINAL)), 1, one + " is not public, final");
            ElementFilter.methodsIn(one.getEnclosedElements()).stream()
                .filter(method -> method.getModifiers().contains(Modifier.PUBLIC))
                .forEach(method -> face.add(method.getSimpleName().toString()));
        }
        super.visitCompilationUnit(tree, none);
        breaksIf(classes.size() > CLASSES, 11, classes.size() + " classes");
        return none;
    }

    @Override
    public Void visitImport(ImportTree tree, Void none) {
        String imported = tree.getQualifiedIdentifier().toString();
        breaksIf(tree.isStatic() || !IMPORTS.contains(imported), 4, "import of " + imported);
        return none;
    }

    @Override
    public Void visitClass(ClassTree tree, Void none) {
        TypeElement one = (TypeElement) elementHere();
        classes.add(one);
        Tree outside = getCurrentPath().getParentPath().getLeaf();
        if (!(outside instanceof CompilationUnitTree)) {
            breaksIf(!(outside instanceof ClassTree), 2, "a class within a method: " + one);
            breaksIf(!one.getModifiers().contains(Modifier.STATIC), 2, one + " is not static");
            boolean open = one.getModifiers().contains(Modifier.PUBLIC) || one.getModifiers().contains(Modifier.PROTECTED);
            breaksIf(open, 1, one + " can be seen from outside");
        }
        long fields = ElementFilter.fieldsIn(one.getEnclosedElements()).stream()
            .filter(field -> !field.getModifiers().contains(Modifier.STATIC)).count();
        breaksIf(fields > FIELDS, 11, one + " has " + fields + " fields");
        for (Tree member : tree.getMembers()) {
            breaksIf(member instanceof BlockTree block && block.isStatic(), 5, "a static block in " + one);
        }
        return super.visitClass(tree, none);
    }

    private boolean isOfTheFace(Element member) {
        return member.getEnclosingElement().equals(classes.get(0));
    }

    @Override
    public Void visitMethod(MethodTree tree, Void none) {
        ExecutableElement method = (ExecutableElement) elementHere();
        Set<Modifier> modifiers = method.getModifiers();
        String name = method.getEnclosingElement() + "." + method;
        calls.put(method, new ArrayList<>());
        boolean isPrivate = modifiers.contains(Modifier.PRIVATE);
        breaksIf(isOfTheFace(method) && !isPrivate && !modifiers.contains(Modifier.PUBLIC), 1, name + " is open");
        breaksIf(isPrivate && face.contains(method.getSimpleName().toString()), 1, name + " has a name of the face");
        breaksIf(modifiers.contains(Modifier.SYNCHRONIZED) || modifiers.contains(Modifier.NATIVE), 6, name);
        breaksIf(!method.getThrownTypes().isEmpty(), 6, name + " tells what it throws");
        boolean ofAllObjects = Set.of("equals", "hashCode", "toString").contains(method.getSimpleName().toString());
        breaksIf(ofAllObjects, 6, name);
        breaksIf(tree.getParameters().size() > PARAMETERS, 11, name + " takes too many");
        breaksIf(lines(tree) > LINES, 11, name + " has " + lines(tree) + " lines");
        if (tree.getReturnType() != null) {
            mayBeUsed(method.getReturnType(), name);
        }
        return super.visitMethod(tree, none);
    }

    private long lines(Tree tree) {
        long from = trees.getSourcePositions().getStartPosition(unit, tree);
        long to = trees.getSourcePositions().getEndPosition(unit, tree);
        return unit.getLineMap().getLineNumber(to) - unit.getLineMap().getLineNumber(from) + 1;
    }

    @Override
    public Void visitVariable(VariableTree tree, Void none) {
        Element variable = elementHere();
        mayBeUsed(variable.asType(), variable.toString());
        if (variable.getKind() == ElementKind.FIELD) {
            Set<Modifier> modifiers = variable.getModifiers();
            boolean isConstant = modifiers.contains(Modifier.STATIC);
            boolean isOpen = !modifiers.contains(Modifier.PRIVATE)
                && !(isConstant && modifiers.contains(Modifier.PUBLIC) && modifiers.contains(Modifier.FINAL));
            breaksIf(isOfTheFace(variable) && isOpen, 1, variable + " is open");
            breaksIf(isConstant && !isRightConstant(variable, tree), 5, variable + " is static");
        }
        return super.visitVariable(tree, none);
    }

    private static boolean isRightConstant(Element field, VariableTree tree) {
        if (!field.getModifiers().contains(Modifier.FINAL)) {
            return false;
        }
        TypeMirror type = field.asType();
        if (type instanceof ArrayType array) {
            boolean writtenOut = tree.getInitializer() instanceof NewArrayTree made && made.getInitializers() != null;
            return writtenOut && Set.of("int", "long", "char", "byte").contains(array.getComponentType().toString());
        }
        return Set.of("int", "long", "boolean", "char", "java.lang.String").contains(type.toString());
    }

    // ---- rules 3, 4: types and the library

    private boolean isOwn(TypeMirror type) {
        return type instanceof DeclaredType declared && classes.get(0).equals(outermost(declared.asElement()));
    }

    private static Element outermost(Element element) {
        Element outer = element;
        while (outer.getEnclosingElement().getKind() != ElementKind.PACKAGE) {
            outer = outer.getEnclosingElement();
        }
        return outer;
    }

    private void mayBeUsed(TypeMirror type, String where) {
        boolean fine = type.getKind().isPrimitive() || type.getKind() == TypeKind.VOID || isOwn(type)
            || type.getKind() == TypeKind.TYPEVAR;
        if (type instanceof ArrayType array) {
            TypeMirror of = array.getComponentType();
            boolean twoOfNumbers = of instanceof ArrayType inner && inner.getComponentType().getKind().isPrimitive();
            fine = of.getKind().isPrimitive() || isOwn(of) || twoOfNumbers;
        } else if (type instanceof DeclaredType declared && !fine) {
            fine = LIBRARY_TYPES.contains(task.getTypes().erasure(type).toString())
                && declared.getTypeArguments().stream().allMatch(of -> isOwn(of) || of.toString().equals("java.lang.Integer"));
        }
        breaksIf(!fine, 3, type + " of " + where);
    }

    @Override
    public Void visitNewClass(NewClassTree tree, Void none) {
        mayBeUsed(typeOf(tree.getIdentifier()), "new " + tree.getIdentifier());
        breaksIf(tree.getClassBody() != null, 2, "a class without a name");
        return super.visitNewClass(tree, none);
    }

    @Override
    public Void visitMethodInvocation(MethodInvocationTree tree, Void none) {
        ExecutableElement called = (ExecutableElement) elementHere();
        TypeElement owner = (TypeElement) called.getEnclosingElement();
        if (outermost(owner).equals(classes.get(0))) {
            noteCall(tree, called);
        } else {
            String name = called.getSimpleName().toString();
            Set<String> known = LIBRARY.getOrDefault(owner.getQualifiedName().toString(), Set.of());
            boolean ofAnArray = name.equals("clone") && tree.getMethodSelect() instanceof MemberSelectTree select
                && typeOfSelected(select) instanceof ArrayType;
            boolean ofAllObjects = called.getKind() == ElementKind.CONSTRUCTOR;
            breaksIf(!known.contains(name) && !ofAnArray && !ofAllObjects, 4, owner + "." + name);
        }
        return super.visitMethodInvocation(tree, none);
    }

    private TypeMirror typeOfSelected(MemberSelectTree select) {
        return trees.getTypeMirror(new TreePath(new TreePath(getCurrentPath(), select), select.getExpression()));
    }

    @Override
    public Void visitLiteral(LiteralTree tree, Void none) {
        String signs = tree.getValue() instanceof String || tree.getValue() instanceof Character
            ? tree.getValue().toString() : "";
        breaksIf(signs.chars().anyMatch(sign -> sign < 1 || sign > 127), 4, "a sign in " + tree);
        return super.visitLiteral(tree, none);
    }

    // ---- rules 2, 6, 9, 10: what may stand in a method

    @Override
    public Void visitLambdaExpression(LambdaExpressionTree tree, Void none) {
        breaks(2, tree.toString());
        return none;
    }

    @Override
    public Void visitMemberReference(MemberReferenceTree tree, Void none) {
        breaks(2, tree.toString());
        return none;
    }

    @Override
    public Void visitThrow(ThrowTree tree, Void none) {
        breaks(6, tree.toString());
        return none;
    }

    @Override
    public Void visitTry(TryTree tree, Void none) {
        breaks(6, tree.toString());
        return none;
    }

    @Override
    public Void visitSynchronized(SynchronizedTree tree, Void none) {
        breaks(6, tree.toString());
        return none;
    }

    @Override
    public Void visitAssert(AssertTree tree, Void none) {
        breaks(6, tree.toString());
        return none;
    }

    @Override
    public Void visitTypeCast(TypeCastTree tree, Void none) {
        TypeMirror to = typeOf(tree.getType());
        breaksIf(!to.getKind().isPrimitive() && !isOwn(to), 6, tree.toString());
        return super.visitTypeCast(tree, none);
    }

    @Override
    public Void visitBinary(BinaryTree tree, Void none) {
        String left = typeOf(tree.getLeftOperand()).toString();
        String right = typeOf(tree.getRightOperand()).toString();
        boolean compares = tree.getKind() == Tree.Kind.EQUAL_TO || tree.getKind() == Tree.Kind.NOT_EQUAL_TO;
        boolean ofTexts = left.equals("java.lang.String") || left.equals("java.lang.Integer");
        breaksIf(compares && ofTexts && left.equals(right), 6, tree.toString());
        breaksIf(!compares && (left + right).contains("java.lang.String"), 10, tree.toString());
        return super.visitBinary(tree, none);
    }

    @Override
    public Void visitCompoundAssignment(CompoundAssignmentTree tree, Void none) {
        breaksIf(typeOf(tree.getVariable()).toString().equals("java.lang.String"), 10, tree.toString());
        return super.visitCompoundAssignment(tree, none);
    }

    private void hasAnEnd(ExpressionTree condition) {
        String shown = condition == null ? "true" : condition.toString().replaceAll("[()]", "");
        breaksIf(shown.equals("true"), 9, "a loop without an end");
    }

    @Override
    public Void visitForLoop(ForLoopTree tree, Void none) {
        hasAnEnd(tree.getCondition());
        return super.visitForLoop(tree, none);
    }

    @Override
    public Void visitWhileLoop(WhileLoopTree tree, Void none) {
        hasAnEnd(tree.getCondition());
        return super.visitWhileLoop(tree, none);
    }

    @Override
    public Void visitDoWhileLoop(DoWhileLoopTree tree, Void none) {
        hasAnEnd(tree.getCondition());
        return super.visitDoWhileLoop(tree, none);
    }

    // ---- rules 8, 11: calls of calls

    private void noteCall(MethodInvocationTree tree, ExecutableElement called) {
        TreePath method = getCurrentPath();
        while (method != null && !(method.getLeaf() instanceof MethodTree)) {
            method = method.getParentPath();
        }
        if (method == null) {
            return;
        }
        Element caller = trees.getElement(method);
        Element receiver = caller.getEnclosingElement();
        boolean exact = called.getKind() == ElementKind.CONSTRUCTOR || called.getModifiers().contains(Modifier.STATIC);
        if (tree.getMethodSelect() instanceof MemberSelectTree select && !exact) {
            exact = select.getExpression().toString().equals("super");
            receiver = ((DeclaredType) typeOfSelected(select)).asElement();
        }
        calls.get(caller).add(new Call(called, (TypeElement) receiver, exact));
    }

    /** The methods that a call may begin, by what the receiver may be. */
    private Set<ExecutableElement> begun(Call call) {
        if (call.exact) {
            return Set.of(call.called);
        }
        Set<ExecutableElement> begun = new LinkedHashSet<>();
        for (TypeElement one : classes) {
            if (task.getTypes().isSubtype(one.asType(), call.receiver.asType())) {
                begun.addAll(ElementFilter.methodsIn(task.getElements().getAllMembers(one)).stream()
                    .filter(method -> method.equals(call.called) || task.getElements().overrides(method, call.called, one))
                    .collect(Collectors.toList()));
            }
        }
        return begun;
    }

    private void callsGoNotTooDeep() {
        for (ExecutableElement method : calls.keySet()) {
            int deep = deep(method, new ArrayList<>());
            breaksIf(deep > DEEP, 11, method + " calls " + deep + " deep");
        }
    }

    /** How many calls stand open at most, this one too. The class needs no recursion, so none is let through. */
    private int deep(ExecutableElement method, List<ExecutableElement> open) {
        if (open.contains(method)) {
            breaks(8, method + " calls itself by " + open);
            return 0;
        }
        open.add(method);
        int most = 0;
        for (Call call : calls.getOrDefault(method, List.of())) {
            for (ExecutableElement next : begun(call)) {
                most = Math.max(most, deep(next, open));
            }
        }
        open.remove(method);
        return most + 1;
    }
}
