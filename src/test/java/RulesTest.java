import com.sun.source.tree.AssertTree;
import com.sun.source.tree.BinaryTree;
import com.sun.source.tree.BlockTree;
import com.sun.source.tree.ClassTree;
import com.sun.source.tree.CompilationUnitTree;
import com.sun.source.tree.CompoundAssignmentTree;
import com.sun.source.tree.ImportTree;
import com.sun.source.tree.LambdaExpressionTree;
import com.sun.source.tree.LiteralTree;
import com.sun.source.tree.MemberReferenceTree;
import com.sun.source.tree.MethodInvocationTree;
import com.sun.source.tree.MethodTree;
import com.sun.source.tree.NewClassTree;
import com.sun.source.tree.SynchronizedTree;
import com.sun.source.tree.ThrowTree;
import com.sun.source.tree.Tree;
import com.sun.source.tree.TryTree;
import com.sun.source.tree.VariableTree;
import com.sun.source.util.JavacTask;
import com.sun.source.util.TreePath;
import com.sun.source.util.TreePathScanner;
import com.sun.source.util.Trees;
import java.io.File;
import java.io.IOException;
import java.util.ArrayList;
import java.util.LinkedHashSet;
import java.util.List;
import java.util.Map;
import java.util.Set;
import java.util.TreeMap;
import java.util.TreeSet;
import javax.lang.model.element.Element;
import javax.lang.model.element.ElementKind;
import javax.lang.model.element.ExecutableElement;
import javax.lang.model.element.Modifier;
import javax.lang.model.type.ArrayType;
import javax.lang.model.type.TypeKind;
import javax.lang.model.type.TypeMirror;
import javax.tools.JavaCompiler;
import javax.tools.StandardJavaFileManager;
import javax.tools.ToolProvider;

/** The rules of LANGUAGE.md that can be seen in the text of the class; FaceTest looks at the others of rules 1, 2, 11. */
public final class RulesTest {
    private static final String SOURCE = "src/main/java/LychGate.java";
    private static final Set<String> LIBRARY = Set.of(
        "java.lang.String.length", "java.lang.String.charAt", "java.lang.Math.min", "java.lang.Math.max",
        "java.lang.Integer.bitCount", "java.lang.Object.<init>");
    private static final Set<String> THROWN =
        Set.of("java.lang.IllegalArgumentException", "java.util.NoSuchElementException");
    private static final int MOST_LINES = 60;
    private static final int MOST_DEEP = 8;

    private final List<String> wrong = new ArrayList<>();
    private final Map<String, Set<String>> calls = new TreeMap<>();
    private final Set<String> face = new TreeSet<>();
    private CompilationUnitTree unit;
    private Trees trees;

    public static void main(String[] args) throws IOException {
        RulesTest t = new RulesTest();
        t.read();
        t.look();
        t.depths();
        for (String w : t.wrong) {
            System.out.println("not so: " + w);
        }
        System.out.println(t.wrong.isEmpty() ? "the rules are kept" : t.wrong.size() + " are not so");
        if (!t.wrong.isEmpty()) {
            System.exit(1);
        }
    }

    private void read() throws IOException {
        JavaCompiler compiler = ToolProvider.getSystemJavaCompiler();
        StandardJavaFileManager files = compiler.getStandardFileManager(null, null, null);
        JavacTask task = (JavacTask) compiler.getTask(null, files, null, List.of("-proc:none"), null,
            files.getJavaFileObjects(new File(SOURCE)));
        unit = task.parse().iterator().next();
        task.analyze();
        trees = Trees.instance(task);
    }

    private void check(boolean right, String rule, Tree at) {
        if (!right) {
            wrong.add(rule + ", line " + lineOf(trees.getSourcePositions().getStartPosition(unit, at)));
        }
    }

    private long lineOf(long position) {
        return unit.getLineMap().getLineNumber(position);
    }

    private void look() {
        for (ImportTree i : unit.getImports()) {
            check(i.getQualifiedIdentifier().toString().equals("java.util.NoSuchElementException"), "rule 4: an import", i);
        }
        check(unit.getPackageName() == null, "no package line", unit);
        new Looker().scan(unit, null);
    }

    private static String nameOf(Element method) {
        String parameters = ((ExecutableElement) method).getParameters().toString();
        return method.getEnclosingElement() + "." + method.getSimpleName() + "(" + parameters + ")";
    }

    private boolean isOwn(Element e) {
        String owner = e.getEnclosingElement().toString();
        return owner.equals("LychGate") || owner.startsWith("LychGate.");
    }

    private boolean isAllowed(TypeMirror type) {
        if (type.getKind().isPrimitive() || type.getKind() == TypeKind.VOID) {
            return true;
        }
        if (type.getKind() == TypeKind.ARRAY) {
            return ((ArrayType) type).getComponentType().getKind() != TypeKind.ARRAY
                && isAllowed(((ArrayType) type).getComponentType());
        }
        String name = type.toString();
        return name.equals("java.lang.String") || name.startsWith("LychGate");
    }

    /** Looks at each piece of the text once. */
    private final class Looker extends TreePathScanner<Void, Void> {
        private String method = "";
        private boolean inConstructor = false;

        private TypeMirror typeOf(Tree tree) {
            return trees.getTypeMirror(new TreePath(getCurrentPath(), tree));
        }

        @Override
        public Void visitClass(ClassTree tree, Void none) {
            Tree parent = getCurrentPath().getParentPath().getLeaf();
            check(parent instanceof CompilationUnitTree || parent instanceof ClassTree, "rule 2: a local class", tree);
            return super.visitClass(tree, none);
        }

        @Override
        public Void visitMethod(MethodTree tree, Void none) {
            Element element = trees.getElement(getCurrentPath());
            method = nameOf(element);
            inConstructor = element.getKind() == ElementKind.CONSTRUCTOR;
            calls.computeIfAbsent(method, m -> new TreeSet<>());
            if (element.getModifiers().contains(Modifier.PUBLIC)) {
                face.add(method);
            }
            check(tree.getParameters().size() <= 7, "rule 11: seven parameters at most", tree);
            long first = lineOf(trees.getSourcePositions().getStartPosition(unit, tree));
            long last = lineOf(trees.getSourcePositions().getEndPosition(unit, tree));
            check(last - first < MOST_LINES, "rule 11: a long method", tree);
            super.visitMethod(tree, none);
            method = "";
            inConstructor = false;
            return null;
        }

        @Override
        public Void visitVariable(VariableTree tree, Void none) {
            Element element = trees.getElement(getCurrentPath());
            check(isAllowed(element.asType()), "rule 3: the type " + element.asType(), tree);
            boolean fixed = element.getModifiers().contains(Modifier.FINAL);
            check(fixed || !element.getModifiers().contains(Modifier.STATIC), "rule 5: static and not final", tree);
            return super.visitVariable(tree, none);
        }

        @Override
        public Void visitMethodInvocation(MethodInvocationTree tree, Void none) {
            Element called = trees.getElement(getCurrentPath());
            note(called, tree);
            return super.visitMethodInvocation(tree, none);
        }

        @Override
        public Void visitNewClass(NewClassTree tree, Void none) {
            check(tree.getClassBody() == null, "rule 2: a class without a name", tree);
            Element called = trees.getElement(getCurrentPath());
            if (!THROWN.contains(called.getEnclosingElement().toString())) {
                note(called, tree);
            }
            return super.visitNewClass(tree, none);
        }

        /** What the library does counts as a call, too. */
        private void note(Element called, Tree tree) {
            String library = called.getEnclosingElement() + "." + called.getSimpleName();
            check(isOwn(called) || LIBRARY.contains(library), "rule 4: " + library, tree);
            if (!method.isEmpty() && !library.equals("java.lang.Object.<init>")) {
                calls.get(method).add(nameOf(called));
            }
        }

        @Override
        public Void visitThrow(ThrowTree tree, Void none) {
            boolean plain = tree.getExpression() instanceof NewClassTree made
                && THROWN.contains(String.valueOf(typeOf(made)))
                && (made.getArguments().isEmpty() || made.getArguments().get(0) instanceof LiteralTree);
            check(plain, "rule 6: what is thrown", tree);
            check(!inConstructor, "rule 6: a throw in a constructor", tree);
            return super.visitThrow(tree, none);
        }

        @Override
        public Void visitTry(TryTree tree, Void none) {
            check(false, "rule 6: a try (this class needs none)", tree);
            return super.visitTry(tree, none);
        }

        @Override
        public Void visitSynchronized(SynchronizedTree tree, Void none) {
            check(false, "rule 6: synchronized", tree);
            return super.visitSynchronized(tree, none);
        }

        @Override
        public Void visitAssert(AssertTree tree, Void none) {
            check(false, "rule 6: assert", tree);
            return super.visitAssert(tree, none);
        }

        @Override
        public Void visitLambdaExpression(LambdaExpressionTree tree, Void none) {
            check(false, "rule 2: a lambda", tree);
            return super.visitLambdaExpression(tree, none);
        }

        @Override
        public Void visitMemberReference(MemberReferenceTree tree, Void none) {
            check(false, "rule 2: a method reference", tree);
            return super.visitMemberReference(tree, none);
        }

        @Override
        public Void visitBlock(BlockTree tree, Void none) {
            boolean initialiser = getCurrentPath().getParentPath().getLeaf() instanceof ClassTree;
            check(!initialiser, "rule 5: an initialiser block", tree);
            return super.visitBlock(tree, none);
        }

        @Override
        public Void visitBinary(BinaryTree tree, Void none) {
            boolean joins = String.valueOf(typeOf(tree)).equals("java.lang.String");
            check(!joins, "rule 10: texts joined by +", tree);
            return super.visitBinary(tree, none);
        }

        @Override
        public Void visitCompoundAssignment(CompoundAssignmentTree tree, Void none) {
            boolean joins = String.valueOf(typeOf(tree)).equals("java.lang.String");
            check(!joins, "rule 10: texts joined by +=", tree);
            return super.visitCompoundAssignment(tree, none);
        }
    }

    // ---- rule 11: how deep calls go ----

    private void depths() {
        for (String start : face) {
            Set<String> longest = new LinkedHashSet<>();
            goDown(start, new LinkedHashSet<>(), longest);
            if (longest.size() > MOST_DEEP) {
                wrong.add("rule 11: calls go " + longest.size() + " deep: " + longest);
            }
        }
        if (face.size() != 39) {
            wrong.add("the constructor and 38 methods of the face were to be looked at, but " + face.size() + " were");
        }
    }

    /** The longest row of calls that comes to no method twice: what comes twice is recursion. */
    private void goDown(String method, Set<String> row, Set<String> longest) {
        if (!row.add(method)) {
            return;
        }
        if (row.size() > longest.size()) {
            longest.clear();
            longest.addAll(row);
        }
        for (String next : calls.getOrDefault(method, Set.of())) {
            if (!row.contains(next)) {
                goDown(next, row, longest);
            }
        }
        row.remove(method);
    }
}
