import com.sun.source.tree.AssertTree;
import com.sun.source.tree.BinaryTree;
import com.sun.source.tree.BlockTree;
import com.sun.source.tree.ClassTree;
import com.sun.source.tree.CompilationUnitTree;
import com.sun.source.tree.CompoundAssignmentTree;
import com.sun.source.tree.DoWhileLoopTree;
import com.sun.source.tree.ExpressionTree;
import com.sun.source.tree.ForLoopTree;
import com.sun.source.tree.ImportTree;
import com.sun.source.tree.InstanceOfTree;
import com.sun.source.tree.LambdaExpressionTree;
import com.sun.source.tree.LiteralTree;
import com.sun.source.tree.MemberReferenceTree;
import com.sun.source.tree.MethodInvocationTree;
import com.sun.source.tree.MethodTree;
import com.sun.source.tree.NewArrayTree;
import com.sun.source.tree.NewClassTree;
import com.sun.source.tree.PackageTree;
import com.sun.source.tree.SwitchExpressionTree;
import com.sun.source.tree.SynchronizedTree;
import com.sun.source.tree.ThrowTree;
import com.sun.source.tree.Tree;
import com.sun.source.tree.TryTree;
import com.sun.source.tree.TypeCastTree;
import com.sun.source.tree.VariableTree;
import com.sun.source.tree.WhileLoopTree;
import com.sun.source.util.JavacTask;
import com.sun.source.util.SourcePositions;
import com.sun.source.util.TreePath;
import com.sun.source.util.TreePathScanner;
import com.sun.source.util.Trees;
import java.io.File;
import java.util.Arrays;
import java.util.HashMap;
import java.util.HashSet;
import java.util.LinkedHashMap;
import java.util.LinkedHashSet;
import java.util.List;
import java.util.Map;
import java.util.Set;
import javax.lang.model.element.Element;
import javax.lang.model.element.ElementKind;
import javax.lang.model.element.Modifier;
import javax.lang.model.type.ArrayType;
import javax.lang.model.type.TypeKind;
import javax.lang.model.type.TypeMirror;
import javax.tools.JavaCompiler;
import javax.tools.StandardJavaFileManager;
import javax.tools.ToolProvider;

/**
 * The file keeps to the rules of LANGUAGE.md, as far as they can be seen from its tree, with what this class needs of
 * the library and no more. Rules 7 and 9 (nothing is thrown, loops end) are asked by RoomTest, too.
 */
public final class LanguageTest extends TreePathScanner<Void, Void> {
    private static final Told TOLD = new Told("LanguageTest");
    private static final String FILE = "src/main/java/SagMemory.java";
    // Rule 4 leaves more; a name that is added here is looked up there first.
    private static final Set<String> LIBRARY = new HashSet<>(Arrays.asList("java.lang.String.length",
        "java.lang.String.charAt", "java.lang.Math.max", "java.lang.Math.min", "java.lang.Math.abs",
        "java.lang.Integer.bitCount", "java.lang.System.arraycopy"));

    private final Trees trees;
    private final CompilationUnitTree unit;
    private final SourcePositions places;
    // Which methods (and constructors) call which ones of this file, or of the library.
    private final Map<String, Set<String>> calls = new LinkedHashMap<>();
    private final Map<String, Integer> depths = new HashMap<>();
    private String method = "";
    private int classes;

    private LanguageTest(Trees trees, CompilationUnitTree unit) {
        this.trees = trees;
        this.unit = unit;
        this.places = trees.getSourcePositions();
    }

    public static void main(String[] args) throws Exception {
        JavaCompiler compiler = ToolProvider.getSystemJavaCompiler();
        try (StandardJavaFileManager files = compiler.getStandardFileManager(null, null, null)) {
            JavacTask task = (JavacTask) compiler.getTask(null, files, null, List.of("-proc:none"), null,
                files.getJavaFileObjects(new File(FILE)));
            Iterable<? extends CompilationUnitTree> units = task.parse();
            task.analyze();
            for (CompilationUnitTree unit : units) {
                LanguageTest test = new LanguageTest(Trees.instance(task), unit);
                test.scan(unit, null);
                test.askWhole();
            }
        }
        TOLD.close();
    }

    private void rule(int number, String what, Tree at, boolean kept) {
        long line = unit.getLineMap().getLineNumber(places.getStartPosition(unit, at));
        TOLD.due("rule " + number + ", line " + line + ": " + what, kept ? 1 : 0, 1);
    }

    private void refuse(int number, Tree at) {
        rule(number, at.getKind().toString(), at, false);
    }

    private void askWhole() {
        TOLD.due("rule 11: classes, the outer one too: " + classes, classes <= 12 ? 1 : 0, 1);
        int deepest = 0;
        for (String each : calls.keySet()) {
            deepest = Math.max(deepest, depth(each, new LinkedHashSet<>()));
        }
        TOLD.due("rule 11: calls go " + deepest + " deep", deepest > 2 && deepest <= 8 ? 1 : 0, 1);
    }

    /** How deep calls go below a method, itself counted; no method comes back to itself (rule 8 is not needed). */
    private int depth(String name, Set<String> open) {
        if (depths.containsKey(name)) {
            return depths.get(name);
        }
        TOLD.due("rule 8: " + name + " comes back to itself by " + open, open.add(name) ? 1 : 0, 1);
        int below = 0;
        for (String called : calls.getOrDefault(name, Set.of())) {
            below = open.contains(called) ? 1000 : Math.max(below, depth(called, open));
        }
        open.remove(name);
        depths.put(name, below + 1);
        return below + 1;
    }

    // ---- rules 1, 2, 5, 11: what is declared ----

    @Override
    public Void visitPackage(PackageTree tree, Void none) {
        refuse(1, tree);
        return null;
    }

    @Override
    public Void visitImport(ImportTree tree, Void none) {
        refuse(4, tree);
        return null;
    }

    @Override
    public Void visitClass(ClassTree tree, Void none) {
        classes++;
        Tree parent = getCurrentPath().getParentPath().getLeaf();
        boolean outer = parent == unit;
        Set<Modifier> modifiers = tree.getModifiers().getFlags();
        rule(2, "a class inside is static", tree, outer || modifiers.contains(Modifier.STATIC));
        rule(2, "no local class", tree, outer || parent instanceof ClassTree);
        rule(1, "the outer class is public and final", tree,
            !outer || modifiers.contains(Modifier.PUBLIC) && modifiers.contains(Modifier.FINAL));
        int fields = 0;
        for (Tree member : tree.getMembers()) {
            if (member instanceof VariableTree && !isStatic((VariableTree) member)) {
                fields++;
            }
            if (member instanceof BlockTree) {
                rule(5, "no block of initialising", member, false);
            }
        }
        rule(11, fields + " fields", tree, fields <= 20);
        return super.visitClass(tree, none);
    }

    private static boolean isStatic(VariableTree tree) {
        return tree.getModifiers().getFlags().contains(Modifier.STATIC);
    }

    @Override
    public Void visitMethod(MethodTree tree, Void none) {
        method = nameOf(trees.getElement(getCurrentPath()));
        calls.putIfAbsent(method, new LinkedHashSet<>());
        rule(11, "parameters of " + method, tree, tree.getParameters().size() <= 7);
        long first = unit.getLineMap().getLineNumber(places.getStartPosition(unit, tree));
        long last = unit.getLineMap().getLineNumber(places.getEndPosition(unit, tree));
        rule(11, "lines of " + method, tree, last - first < 60);
        String name = tree.getName().toString();
        rule(6, name, tree, !Set.of("equals", "hashCode", "toString", "finalize", "clone").contains(name));
        rule(6, "nothing is thrown by " + method, tree, tree.getThrows().isEmpty());
        super.visitMethod(tree, none);
        method = "";
        return null;
    }

    @Override
    public Void visitVariable(VariableTree tree, Void none) {
        Element element = trees.getElement(getCurrentPath());
        rule(3, tree.toString(), tree, element != null && isLeft(element.asType()));
        if (element != null && element.getKind() == ElementKind.FIELD && isStatic(tree)) {
            TypeKind kind = element.asType().getKind();
            rule(5, "a constant: " + tree.getName(), tree, tree.getModifiers().getFlags().contains(Modifier.FINAL)
                && (kind == TypeKind.INT || kind == TypeKind.LONG) && tree.getInitializer() != null);
        }
        return super.visitVariable(tree, none);
    }

    /** Numbers, texts, own classes, and rows of numbers or own classes. */
    private static boolean isLeft(TypeMirror type) {
        if (type.getKind() == TypeKind.ARRAY) {
            TypeMirror part = ((ArrayType) type).getComponentType();
            return part.getKind().isPrimitive() || part.toString().startsWith("SagMemory");
        }
        boolean whole = type.getKind().isPrimitive() && type.getKind() != TypeKind.DOUBLE && type.getKind() != TypeKind.FLOAT;
        return whole || type.toString().startsWith("SagMemory") || type.toString().equals("java.lang.String");
    }

    // ---- rules 4, 8, 12: what is called and made ----

    private static String nameOf(Element element) {
        return element.getEnclosingElement() + "." + element.getSimpleName();
    }

    @Override
    public Void visitMethodInvocation(MethodInvocationTree tree, Void none) {
        Element called = trees.getElement(new TreePath(getCurrentPath(), tree.getMethodSelect()));
        String name = called == null ? "?" : nameOf(called);
        boolean made = name.endsWith(".<init>");
        if (!made) {
            rule(4, name, tree, name.startsWith("SagMemory") || LIBRARY.contains(name));
            calls.computeIfAbsent(method, key -> new LinkedHashSet<>()).add(name);
        }
        return super.visitMethodInvocation(tree, none);
    }

    @Override
    public Void visitNewClass(NewClassTree tree, Void none) {
        rule(2, "no class without a name", tree, tree.getClassBody() == null);
        rule(12, "no call makes an object", tree, method.isEmpty() || method.endsWith(".<init>"));
        Element made = trees.getElement(getCurrentPath());
        rule(4, "an own class is made", tree, made != null && nameOf(made).startsWith("SagMemory"));
        return super.visitNewClass(tree, none);
    }

    @Override
    public Void visitNewArray(NewArrayTree tree, Void none) {
        rule(12, "no call makes a row", tree, method.isEmpty() || method.endsWith(".<init>"));
        return super.visitNewArray(tree, none);
    }

    // ---- rules 2, 3, 6, 9, 10: what stands in methods ----

    private TypeMirror typeOf(Tree tree) {
        return trees.getTypeMirror(new TreePath(getCurrentPath(), tree));
    }

    private boolean isObject(Tree tree) {
        TypeMirror type = typeOf(tree);
        return type == null || !type.getKind().isPrimitive();
    }

    @Override
    public Void visitBinary(BinaryTree tree, Void none) {
        boolean objects = isObject(tree.getLeftOperand()) || isObject(tree.getRightOperand());
        rule(tree.getKind() == Tree.Kind.PLUS ? 10 : 6, "numbers alone: " + tree, tree, !objects);
        return super.visitBinary(tree, none);
    }

    @Override
    public Void visitCompoundAssignment(CompoundAssignmentTree tree, Void none) {
        rule(10, "numbers alone: " + tree, tree, !isObject(tree.getVariable()));
        return super.visitCompoundAssignment(tree, none);
    }

    @Override
    public Void visitLiteral(LiteralTree tree, Void none) {
        Object value = tree.getValue();
        String text = value instanceof String || value instanceof Character ? value.toString() : "";
        rule(4, "signs of 1 to 127: " + tree, tree, text.chars().allMatch(sign -> sign >= 1 && sign <= 127));
        rule(6, "null is not needed", tree, tree.getKind() != Tree.Kind.NULL_LITERAL);
        return super.visitLiteral(tree, none);
    }

    @Override
    public Void visitTypeCast(TypeCastTree tree, Void none) {
        rule(6, "a cast of numbers: " + tree, tree, !isObject(tree.getExpression()) && !isObject(tree.getType()));
        return super.visitTypeCast(tree, none);
    }

    private void askEnd(Tree loop, ExpressionTree condition) {
        boolean open = condition == null || condition.toString().replaceAll("[()]", "").equals("true");
        rule(9, "a loop without an end", loop, !open);
    }

    @Override
    public Void visitForLoop(ForLoopTree tree, Void none) {
        askEnd(tree, tree.getCondition());
        return super.visitForLoop(tree, none);
    }

    @Override
    public Void visitWhileLoop(WhileLoopTree tree, Void none) {
        askEnd(tree, tree.getCondition());
        return super.visitWhileLoop(tree, none);
    }

    @Override
    public Void visitDoWhileLoop(DoWhileLoopTree tree, Void none) {
        askEnd(tree, tree.getCondition());
        return super.visitDoWhileLoop(tree, none);
    }

    @Override
    public Void visitLambdaExpression(LambdaExpressionTree tree, Void none) {
        refuse(2, tree);
        return null;
    }

    @Override
    public Void visitMemberReference(MemberReferenceTree tree, Void none) {
        refuse(2, tree);
        return null;
    }

    @Override
    public Void visitThrow(ThrowTree tree, Void none) {
        refuse(6, tree);
        return null;
    }

    @Override
    public Void visitTry(TryTree tree, Void none) {
        refuse(6, tree);
        return null;
    }

    @Override
    public Void visitSynchronized(SynchronizedTree tree, Void none) {
        refuse(6, tree);
        return null;
    }

    @Override
    public Void visitAssert(AssertTree tree, Void none) {
        refuse(6, tree);
        return null;
    }

    @Override
    public Void visitInstanceOf(InstanceOfTree tree, Void none) {
        refuse(6, tree);
        return null;
    }

    @Override
    public Void visitSwitchExpression(SwitchExpressionTree tree, Void none) {
        refuse(10, tree);
        return null;
    }
}
