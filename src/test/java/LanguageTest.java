import com.sun.source.tree.AssertTree;
import com.sun.source.tree.BinaryTree;
import com.sun.source.tree.ClassTree;
import com.sun.source.tree.CompilationUnitTree;
import com.sun.source.tree.ImportTree;
import com.sun.source.tree.InstanceOfTree;
import com.sun.source.tree.LambdaExpressionTree;
import com.sun.source.tree.MemberReferenceTree;
import com.sun.source.tree.MethodInvocationTree;
import com.sun.source.tree.MethodTree;
import com.sun.source.tree.NewClassTree;
import com.sun.source.tree.SynchronizedTree;
import com.sun.source.tree.ThrowTree;
import com.sun.source.tree.Tree;
import com.sun.source.tree.TryTree;
import com.sun.source.tree.TypeCastTree;
import com.sun.source.tree.VariableTree;
import com.sun.source.util.JavacTask;
import com.sun.source.util.TreePath;
import com.sun.source.util.TreePathScanner;
import com.sun.source.util.Trees;
import java.io.File;
import java.io.IOException;
import java.util.HashMap;
import java.util.HashSet;
import java.util.LinkedHashSet;
import java.util.List;
import java.util.Map;
import java.util.Set;
import javax.lang.model.element.Element;
import javax.lang.model.element.ElementKind;
import javax.lang.model.element.ExecutableElement;
import javax.lang.model.element.Modifier;
import javax.lang.model.type.TypeKind;
import javax.lang.model.type.TypeMirror;
import javax.tools.JavaCompiler;
import javax.tools.StandardJavaFileManager;
import javax.tools.ToolProvider;

/** The rules of LANGUAGE.md that can be seen from the source: what is in it, how long, and how deep calls go. */
public final class LanguageTest extends TreePathScanner<Void, Void> {
    private static final String SOURCE = "src/main/java/LazyLoom.java";
    private static final int MOST_LINES = 60, MOST_PARAMETERS = 7, MOST_DEPTH = 8, MOST_CLASSES = 12, MOST_FIELDS = 20;
    private static final Set<String> LIBRARY = Set.of("java.util.Arrays.fill", "java.util.Arrays.copyOf",
        "java.util.Arrays.copyOfRange", "java.lang.System.arraycopy", "java.lang.Math.min", "java.lang.Math.max",
        "java.lang.Math.abs", "java.lang.Integer.bitCount");
    private static final Set<String> THROWN = Set.of("IllegalStateException", "IllegalArgumentException",
        "IndexOutOfBoundsException");

    private final Trees trees;
    private final CompilationUnitTree unit;
    private final Map<Element, Set<Element>> calls = new HashMap<>();
    private final Map<Element, Integer> depths = new HashMap<>();
    private final Set<Element> open = new HashSet<>();
    private final Set<String> faceNames = new HashSet<>();
    private int classes = 0;

    private LanguageTest(Trees trees, CompilationUnitTree unit) {
        this.trees = trees;
        this.unit = unit;
    }

    public static void main(String[] args) throws IOException {
        JavaCompiler compiler = ToolProvider.getSystemJavaCompiler();
        StandardJavaFileManager files = compiler.getStandardFileManager(null, null, null);
        JavacTask task = (JavacTask) compiler.getTask(null, files, null, List.of("-proc:none"), null,
            files.getJavaFileObjects(new File(SOURCE)));
        CompilationUnitTree unit = task.parse().iterator().next();
        task.analyze();
        LanguageTest test = new LanguageTest(Trees.instance(task), unit);
        test.collectFace();
        test.scan(unit, null);
        Check.due("rule 11: no more than so many classes", test.classes <= MOST_CLASSES ? 0 : test.classes, 0);
        test.lookAtDepths();
        Check.end("LanguageTest");
    }

    private void collectFace() {
        for (Tree member : ((ClassTree) unit.getTypeDecls().get(0)).getMembers()) {
            if (member instanceof MethodTree method && method.getModifiers().getFlags().contains(Modifier.PUBLIC)) {
                if (method.getReturnType() != null) {
                    faceNames.add(method.getName().toString());
                }
            }
        }
        Check.due("rule 1: no package", unit.getPackageName() == null ? 0 : 1, 0);
        Check.due("rule 1: one class outside", unit.getTypeDecls().size(), 1);
    }

    private void wrong(int rule, Tree where, String what) {
        long line = unit.getLineMap().getLineNumber(trees.getSourcePositions().getStartPosition(unit, where));
        Check.fail("rule " + rule + ", line " + line + ": " + what);
    }

    private Element element(Tree tree) {
        return trees.getElement(new TreePath(getCurrentPath().getParentPath(), tree));
    }

    @Override
    public Void visitImport(ImportTree node, Void p) {
        String name = node.getQualifiedIdentifier().toString();
        if (!Set.of("java.util.Arrays", "java.util.ArrayList", "java.util.List").contains(name)) {
            wrong(4, node, "import of " + name);
        }
        return super.visitImport(node, p);
    }

    @Override
    public Void visitClass(ClassTree node, Void p) {
        classes++;
        int fields = 0;
        for (Tree member : node.getMembers()) {
            if (member instanceof VariableTree field && !field.getModifiers().getFlags().contains(Modifier.STATIC)) {
                fields++;
            }
        }
        if (fields > MOST_FIELDS) {
            wrong(11, node, node.getSimpleName() + " has " + fields + " fields");
        }
        boolean isFace = node.getSimpleName().contentEquals("LazyLoom");
        Set<Modifier> flags = node.getModifiers().getFlags();
        if (!isFace && (!flags.contains(Modifier.STATIC) || flags.contains(Modifier.PUBLIC))) {
            wrong(2, node, node.getSimpleName() + " is not static, or public");
        }
        return super.visitClass(node, p);
    }

    @Override
    public Void visitVariable(VariableTree node, Void p) {
        Set<Modifier> flags = node.getModifiers().getFlags();
        if (flags.contains(Modifier.STATIC) && !flags.contains(Modifier.FINAL)) {
            wrong(5, node, node.getName() + " is static and not final");
        }
        return super.visitVariable(node, p);
    }

    @Override
    public Void visitMethod(MethodTree node, Void p) {
        long start = trees.getSourcePositions().getStartPosition(unit, node);
        long end = trees.getSourcePositions().getEndPosition(unit, node);
        long lines = unit.getLineMap().getLineNumber(end) - unit.getLineMap().getLineNumber(start) + 1;
        if (lines > MOST_LINES) {
            wrong(11, node, node.getName() + " has " + lines + " lines");
        }
        if (node.getParameters().size() > MOST_PARAMETERS) {
            wrong(11, node, node.getName() + " has too many parameters");
        }
        boolean isPublic = node.getModifiers().getFlags().contains(Modifier.PUBLIC);
        if (!isPublic && faceNames.contains(node.getName().toString())) {
            wrong(1, node, node.getName() + " bears a name of the face");
        }
        calls.put(trees.getElement(getCurrentPath()), new LinkedHashSet<>());
        return super.visitMethod(node, p);
    }

    private Element method() {
        for (TreePath path = getCurrentPath(); path != null; path = path.getParentPath()) {
            if (path.getLeaf() instanceof MethodTree) {
                return trees.getElement(path);
            }
        }
        return null;
    }

    @Override
    public Void visitMethodInvocation(MethodInvocationTree node, Void p) {
        Element called = trees.getElement(getCurrentPath());
        noteCall(node, called);
        return super.visitMethodInvocation(node, p);
    }

    private void noteCall(Tree node, Element called) {
        String owner = called.getEnclosingElement().toString();
        if (!owner.startsWith("LazyLoom")) {
            String name = owner + "." + called.getSimpleName();
            boolean isConstructor = called.getKind() == ElementKind.CONSTRUCTOR;
            if (!isConstructor && !LIBRARY.contains(name)) {
                wrong(4, node, "call of " + name);
            }
            return;
        }
        Element method = method();
        if (method != null) {
            calls.get(method).add(called);
        }
    }

    @Override
    public Void visitNewClass(NewClassTree node, Void p) {
        noteCall(node, trees.getElement(getCurrentPath()));
        if (node.getClassBody() != null) {
            wrong(2, node, "an anonymous class");
        }
        return super.visitNewClass(node, p);
    }

    @Override
    public Void visitThrow(ThrowTree node, Void p) {
        boolean isNew = node.getExpression() instanceof NewClassTree;
        if (!isNew || !THROWN.contains(((NewClassTree) node.getExpression()).getIdentifier().toString())) {
            wrong(6, node, "throws something else");
        }
        if (method().getKind() == ElementKind.CONSTRUCTOR) {
            wrong(6, node, "a throw in a constructor");
        }
        return super.visitThrow(node, p);
    }

    @Override
    public Void visitBinary(BinaryTree node, Void p) {
        if (node.getKind() == Tree.Kind.PLUS) {
            TypeMirror type = trees.getTypeMirror(getCurrentPath());
            if (type != null && type.getKind() == TypeKind.DECLARED) {
                wrong(10, node, "texts joined by +");
            }
        }
        return super.visitBinary(node, p);
    }

    @Override
    public Void visitTypeCast(TypeCastTree node, Void p) {
        TypeMirror type = trees.getTypeMirror(new TreePath(getCurrentPath(), node.getType()));
        if (type != null && !type.getKind().isPrimitive()) {
            wrong(6, node, "a cast of an object");
        }
        return super.visitTypeCast(node, p);
    }

    @Override
    public Void visitTry(TryTree node, Void p) {
        wrong(6, node, "a try");
        return super.visitTry(node, p);
    }

    @Override
    public Void visitLambdaExpression(LambdaExpressionTree node, Void p) {
        wrong(2, node, "a lambda");
        return super.visitLambdaExpression(node, p);
    }

    @Override
    public Void visitMemberReference(MemberReferenceTree node, Void p) {
        wrong(2, node, "a method reference");
        return super.visitMemberReference(node, p);
    }

    @Override
    public Void visitSynchronized(SynchronizedTree node, Void p) {
        wrong(6, node, "synchronized");
        return super.visitSynchronized(node, p);
    }

    @Override
    public Void visitAssert(AssertTree node, Void p) {
        wrong(6, node, "assert");
        return super.visitAssert(node, p);
    }

    @Override
    public Void visitInstanceOf(InstanceOfTree node, Void p) {
        wrong(6, node, "instanceof, where nothing here needs it");
        return super.visitInstanceOf(node, p);
    }

    private void lookAtDepths() {
        int deepest = 0;
        for (Element method : calls.keySet()) {
            int depth = depth(method);
            deepest = Math.max(deepest, depth);
            if (depth > MOST_DEPTH) {
                Check.fail("rule 11: " + way(method) + " is " + depth + " deep");
            }
        }
        System.out.println("  the deepest call is " + deepest + " deep");
        Check.due("rule 11: calls are not too deep", deepest <= MOST_DEPTH ? 0 : deepest, 0);
    }

    private int depth(Element method) {
        Integer known = depths.get(method);
        if (known != null) {
            return known;
        }
        if (!open.add(method)) {
            Check.fail("rule 8: " + method + " calls itself");
            return 1;
        }
        int deepest = 0;
        for (Element called : calls.getOrDefault(method, Set.of())) {
            deepest = Math.max(deepest, depth(called));
        }
        open.remove(method);
        depths.put(method, deepest + 1);
        return deepest + 1;
    }

    private String way(Element method) {
        StringBuilder way = new StringBuilder();
        Element at = method;
        while (at != null) {
            way.append(at.getEnclosingElement().getSimpleName()).append('.').append(((ExecutableElement) at).getSimpleName())
                .append(" > ");
            Element next = null;
            for (Element called : calls.getOrDefault(at, Set.of())) {
                if (next == null || depths.get(called) > depths.get(next)) {
                    next = called;
                }
            }
            at = next;
        }
        return way.toString();
    }
}
