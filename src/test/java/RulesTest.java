import com.sun.source.tree.AnnotationTree;
import com.sun.source.tree.AssertTree;
import com.sun.source.tree.BinaryTree;
import com.sun.source.tree.ClassTree;
import com.sun.source.tree.CompilationUnitTree;
import com.sun.source.tree.LambdaExpressionTree;
import com.sun.source.tree.MemberReferenceTree;
import com.sun.source.tree.MethodInvocationTree;
import com.sun.source.tree.MethodTree;
import com.sun.source.tree.NewArrayTree;
import com.sun.source.tree.NewClassTree;
import com.sun.source.tree.SynchronizedTree;
import com.sun.source.tree.ThrowTree;
import com.sun.source.tree.Tree;
import com.sun.source.tree.TryTree;
import com.sun.source.tree.TypeCastTree;
import com.sun.source.tree.VariableTree;
import com.sun.source.util.JavacTask;
import com.sun.source.util.TreePathScanner;
import com.sun.source.util.Trees;
import java.nio.file.Path;
import java.util.ArrayList;
import java.util.HashMap;
import java.util.LinkedHashSet;
import java.util.List;
import java.util.Map;
import java.util.Set;
import javax.lang.model.element.Element;
import javax.lang.model.element.ElementKind;
import javax.lang.model.element.Modifier;
import javax.lang.model.type.TypeKind;
import javax.lang.model.type.TypeMirror;
import javax.tools.JavaCompiler;
import javax.tools.StandardJavaFileManager;
import javax.tools.ToolProvider;

/** Rules 2 to 6, 8, 10 and 11 of LANGUAGE.md, asked of the file as the compiler reads it. */
public final class RulesTest extends TreePathScanner<Void, Void> {
    /** What of the library the file may call, of all that rule 4 lists. */
    private static final Set<String> LIBRARY = Set.of("java.lang.String.length", "java.lang.String.charAt",
        "java.lang.String.isEmpty", "java.lang.String.equals", "java.lang.String.substring", "java.lang.Math.max",
        "java.lang.Math.min", "java.lang.Math.abs", "java.lang.System.arraycopy", "java.util.Arrays.copyOf",
        "java.util.Arrays.copyOfRange", "java.util.Arrays.fill");

    private final Trees trees;
    private final Map<Element, Set<Element>> calls = new HashMap<>();
    private Element method = null;

    private RulesTest(Trees trees) {
        this.trees = trees;
    }

    private static void refuse(String what, Tree tree) {
        Probe.due(what + ": " + tree.toString().lines().findFirst().orElse(""), false);
    }

    private Element element() {
        return trees.getElement(getCurrentPath());
    }

    private static boolean own(Element e) {
        Element up = e;
        while (up != null && up.getKind() != ElementKind.PACKAGE && !up.getSimpleName().contentEquals("GradualCheck")) {
            up = up.getEnclosingElement();
        }
        return up != null && up.getKind() == ElementKind.CLASS;
    }

    @Override
    public Void visitClass(ClassTree tree, Void v) {
        Element e = element();
        boolean outer = e.getEnclosingElement().getKind() == ElementKind.PACKAGE;
        Probe.due("a static class, neither local nor without a name: " + tree.getSimpleName(),
            outer || e.getEnclosingElement().getKind() == ElementKind.CLASS && e.getModifiers().contains(Modifier.STATIC));
        return super.visitClass(tree, v);
    }

    @Override
    public Void visitMethod(MethodTree tree, Void v) {
        method = element();
        calls.putIfAbsent(method, new LinkedHashSet<>());
        Probe.due("seven parameters: " + tree.getName(), tree.getParameters().size() <= 7);
        Probe.due("no throws: " + tree.getName(), tree.getThrows().isEmpty());
        super.visitMethod(tree, v);
        method = null;
        return null;
    }

    @Override
    public Void visitMethodInvocation(MethodInvocationTree tree, Void v) {
        called(trees.getElement(new com.sun.source.util.TreePath(getCurrentPath(), tree.getMethodSelect())), tree);
        return super.visitMethodInvocation(tree, v);
    }

    @Override
    public Void visitNewClass(NewClassTree tree, Void v) {
        Probe.due("no class without a name: " + tree, tree.getClassBody() == null);
        called(element(), tree);
        return super.visitNewClass(tree, v);
    }

    private void called(Element to, Tree tree) {
        if (own(to)) {
            calls.computeIfAbsent(method == null ? to.getEnclosingElement() : method, m -> new LinkedHashSet<>()).add(to);
        } else if (to.getKind() == ElementKind.METHOD) {
            String name = to.getEnclosingElement() + "." + to.getSimpleName();
            Probe.due("of the library: " + name, LIBRARY.contains(name));
        } else {
            Probe.due("a class of the library is made or Object's constructor called: " + tree,
                tree.toString().equals("super()"));
        }
    }

    @Override
    public Void visitVariable(VariableTree tree, Void v) {
        Element e = element();
        TypeMirror type = e.asType();
        boolean isStatic = e.getModifiers().contains(Modifier.STATIC);
        Probe.due("a type that may be: " + tree, mayBe(type));
        Probe.due("a static field is final: " + tree, !isStatic || e.getModifiers().contains(Modifier.FINAL));
        boolean row = type.getKind() == TypeKind.ARRAY;
        Probe.due("a static row is written out: " + tree,
            !isStatic || !row || tree.getInitializer() instanceof NewArrayTree);
        return super.visitVariable(tree, v);
    }

    private static boolean mayBe(TypeMirror type) {
        String name = type.toString().replace("[]", "");
        boolean number = Set.of("int", "long", "short", "byte", "char", "boolean").contains(name);
        int dimensions = (type.toString().length() - name.length()) / 2;
        return number ? dimensions <= 2 : dimensions <= 1 && (name.startsWith("GradualCheck") || name.equals("java.lang.String"));
    }

    @Override
    public Void visitBinary(BinaryTree tree, Void v) {
        TypeMirror left = trees.getTypeMirror(new com.sun.source.util.TreePath(getCurrentPath(), tree.getLeftOperand()));
        TypeMirror right = trees.getTypeMirror(new com.sun.source.util.TreePath(getCurrentPath(), tree.getRightOperand()));
        Probe.due("no text is joined or compared by a sign: " + tree,
            !left.toString().equals("java.lang.String") && !right.toString().equals("java.lang.String"));
        boolean divides = tree.getKind() == Tree.Kind.DIVIDE || tree.getKind() == Tree.Kind.REMAINDER;
        Probe.due("a divisor: " + tree, !divides || tree.getRightOperand().toString().matches("10|power"));
        return super.visitBinary(tree, v);
    }

    @Override
    public Void visitThrow(ThrowTree tree, Void v) {
        refuse("throw", tree);
        return null;
    }

    @Override
    public Void visitTry(TryTree tree, Void v) {
        refuse("try", tree);
        return null;
    }

    @Override
    public Void visitSynchronized(SynchronizedTree tree, Void v) {
        refuse("synchronized", tree);
        return null;
    }

    @Override
    public Void visitAssert(AssertTree tree, Void v) {
        refuse("assert", tree);
        return null;
    }

    @Override
    public Void visitLambdaExpression(LambdaExpressionTree tree, Void v) {
        refuse("a lambda", tree);
        return null;
    }

    @Override
    public Void visitMemberReference(MemberReferenceTree tree, Void v) {
        refuse("a method reference", tree);
        return null;
    }

    @Override
    public Void visitTypeCast(TypeCastTree tree, Void v) {
        refuse("a cast", tree);
        return null;
    }

    @Override
    public Void visitAnnotation(AnnotationTree tree, Void v) {
        refuse("an annotation", tree);
        return null;
    }

    /** All that a method comes to, itself only where it comes back to itself. */
    private Set<Element> reach(Element from) {
        Set<Element> seen = new LinkedHashSet<>();
        List<Element> left = new ArrayList<>(calls.getOrDefault(from, Set.of()));
        while (!left.isEmpty()) {
            Element e = left.remove(left.size() - 1);
            if (seen.add(e)) {
                left.addAll(calls.getOrDefault(e, Set.of()));
            }
        }
        return seen;
    }

    /** The most calls that stand open at once, each method that calls itself by way of others counted once. */
    private int deep(Element from, Map<Element, Integer> known) {
        Integer before = known.get(from);
        if (before != null) {
            return before;
        }
        Set<Element> round = new LinkedHashSet<>(Set.of(from));
        for (Element e : reach(from)) {
            if (reach(e).contains(from)) {
                round.add(e);
            }
        }
        int most = 0;
        for (Element e : round) {
            for (Element to : calls.getOrDefault(e, Set.of())) {
                most = round.contains(to) ? most : Math.max(most, deep(to, known));
            }
        }
        for (Element e : round) {
            known.put(e, most + round.size());
        }
        return most + round.size();
    }

    private void deepCalls() {
        Map<Element, Integer> known = new HashMap<>();
        int most = 0;
        for (Element e : new ArrayList<>(calls.keySet())) {
            int deep = deep(e, known);
            most = Math.max(most, deep);
            Probe.due("calls open at once from " + e + " on, eight at most: " + deep, deep <= 8);
        }
        Probe.due("calls were found", most > 4);
    }

    public static void main(String[] args) throws java.io.IOException {
        JavaCompiler compiler = ToolProvider.getSystemJavaCompiler();
        try (StandardJavaFileManager files = compiler.getStandardFileManager(null, null, null)) {
            JavacTask task = (JavacTask) compiler.getTask(null, files, null, List.of("-proc:none"), null,
                files.getJavaFileObjects(Path.of("src/main/java/GradualCheck.java")));
            Iterable<? extends CompilationUnitTree> units = task.parse();
            task.analyze();
            RulesTest test = new RulesTest(Trees.instance(task));
            for (CompilationUnitTree unit : units) {
                Probe.due("no package", unit.getPackageName() == null);
                test.scan(unit, null);
            }
            test.deepCalls();
        }
        Probe.end();
    }
}
