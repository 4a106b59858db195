import com.sun.source.tree.AssertTree;
import com.sun.source.tree.BinaryTree;
import com.sun.source.tree.ClassTree;
import com.sun.source.tree.CompilationUnitTree;
import com.sun.source.tree.ForLoopTree;
import com.sun.source.tree.ImportTree;
import com.sun.source.tree.LambdaExpressionTree;
import com.sun.source.tree.MemberReferenceTree;
import com.sun.source.tree.MethodInvocationTree;
import com.sun.source.tree.MethodTree;
import com.sun.source.tree.NewClassTree;
import com.sun.source.tree.SynchronizedTree;
import com.sun.source.tree.ThrowTree;
import com.sun.source.tree.Tree;
import com.sun.source.tree.TryTree;
import com.sun.source.tree.VariableTree;
import com.sun.source.util.JavacTask;
import com.sun.source.util.SourcePositions;
import com.sun.source.util.TreePathScanner;
import com.sun.source.util.Trees;
import java.io.File;
import java.io.IOException;
import java.util.HashMap;
import java.util.HashSet;
import java.util.LinkedHashMap;
import java.util.List;
import java.util.Map;
import java.util.Set;
import javax.lang.model.element.Element;
import javax.lang.model.element.ElementKind;
import javax.lang.model.element.ExecutableElement;
import javax.lang.model.element.Modifier;
import javax.tools.JavaCompiler;
import javax.tools.StandardJavaFileManager;
import javax.tools.ToolProvider;

/** LANGUAGE.md: what of its rules can be seen in the source of the class, as the compiler reads it. */
public final class LanguageTest {

    private static final String SOURCE = "src/main/java/PasskeyHouse.java";
    private static final int MOST_PARAMETERS = 7;
    private static final int MOST_LINES = 60;
    private static final int MOST_CLASSES = 12;
    private static final int MOST_FIELDS = 20;
    private static final int MOST_DEPTH = 8;
    private static final Set<String> LIBRARY = Set.of("java.lang.String.length", "java.lang.String.charAt", "java.lang.Math.max",
        "java.lang.Math.min", "java.util.Arrays.fill", "java.util.Arrays.copyOf", "java.lang.Object.<init>");

    private final CompilationUnitTree unit;
    private final Trees trees;
    private final Map<ExecutableElement, MethodTree> methods = new LinkedHashMap<>();
    private final Map<ExecutableElement, Set<ExecutableElement>> callees = new HashMap<>();
    private int classes = 0;

    private LanguageTest(CompilationUnitTree unit, Trees trees) {
        this.unit = unit;
        this.trees = trees;
    }

    public static void main(String[] args) throws IOException {
        JavaCompiler compiler = ToolProvider.getSystemJavaCompiler();
        try (StandardJavaFileManager files = compiler.getStandardFileManager(null, null, null)) {
            JavacTask task = (JavacTask) compiler.getTask(null, files, null, List.of("-proc:none"), null,
                files.getJavaFileObjects(new File(SOURCE)));
            CompilationUnitTree unit = task.parse().iterator().next();
            task.analyze();
            LanguageTest test = new LanguageTest(unit, Trees.instance(task));
            test.look();
        }
        Bench.end();
    }

    private void look() {
        Bench.holds("rule 1: there is no package line", unit.getPackageName() == null);
        for (ImportTree line : unit.getImports()) {
            Bench.holds("rule 4: " + line, !line.isStatic() && line.getQualifiedIdentifier().toString().equals("java.util.Arrays"));
        }
        new Walk().scan(unit, null);
        Bench.holds("rule 11: at most " + MOST_CLASSES + " classes, not " + classes, classes <= MOST_CLASSES);
        Bench.holds("there are methods", methods.size() > 100);
        lookAtNames();
        for (ExecutableElement method : methods.keySet()) {
            if (method.getModifiers().contains(Modifier.PUBLIC)) {
                int depth = depth(method, new HashSet<>());
                Bench.holds("rule 11: " + method + " goes " + depth + " calls deep", depth <= MOST_DEPTH);
            }
        }
    }

    private void lookAtNames() {
        Set<String> faces = new HashSet<>();
        for (ExecutableElement method : methods.keySet()) {
            if (method.getModifiers().contains(Modifier.PUBLIC) && method.getKind() == ElementKind.METHOD) {
                faces.add(method.getSimpleName().toString());
            }
        }
        for (ExecutableElement method : methods.keySet()) {
            boolean isHidden = method.getModifiers().contains(Modifier.PRIVATE);
            Bench.holds("rule 1: private " + method, !isHidden || !faces.contains(method.getSimpleName().toString()));
        }
    }

    /** How many calls stand open at once by a method, itself and the library counted; one that calls itself counts once. */
    private int depth(ExecutableElement method, Set<ExecutableElement> open) {
        int deepest = 0;
        open.add(method);
        for (ExecutableElement callee : callees.getOrDefault(method, Set.of())) {
            if (!open.contains(callee)) {
                deepest = Math.max(deepest, depth(callee, open));
            }
        }
        open.remove(method);
        return deepest + 1;
    }

    private final class Walk extends TreePathScanner<Void, Void> {

        private ExecutableElement current;

        private void never(String what, Tree tree) {
            Bench.holds(what + ": " + tree, false);
        }

        @Override
        public Void visitClass(ClassTree tree, Void nothing) {
            classes++;
            Element of = trees.getElement(getCurrentPath());
            boolean isOuter = of.getEnclosingElement().getKind() == ElementKind.PACKAGE;
            boolean isMember = of.getEnclosingElement().getKind().isClass() && of.getModifiers().contains(Modifier.STATIC);
            Bench.holds("rule 2: " + tree.getSimpleName() + " is static", isOuter || isMember);
            int fields = 0;
            for (Tree member : tree.getMembers()) {
                boolean isField = member instanceof VariableTree
                    && !((VariableTree) member).getModifiers().getFlags().contains(Modifier.STATIC);
                fields += isField ? 1 : 0;
            }
            Bench.holds("rule 11: " + tree.getSimpleName() + " has " + fields + " fields", fields <= MOST_FIELDS);
            return super.visitClass(tree, nothing);
        }

        @Override
        public Void visitMethod(MethodTree tree, Void nothing) {
            ExecutableElement before = current;
            current = (ExecutableElement) trees.getElement(getCurrentPath());
            methods.put(current, tree);
            boolean isFace = current.getModifiers().contains(Modifier.PUBLIC);
            Bench.holds("rule 11: parameters of " + current, isFace || tree.getParameters().size() <= MOST_PARAMETERS);
            SourcePositions places = trees.getSourcePositions();
            long first = unit.getLineMap().getLineNumber(Math.max(0, places.getStartPosition(unit, tree)));
            long last = unit.getLineMap().getLineNumber(Math.max(0, places.getEndPosition(unit, tree)));
            Bench.holds("rule 11: lines of " + current + ": " + (last - first + 1), last - first < MOST_LINES);
            Bench.holds("rule 1: only the face is public or protected: " + current, isOfFace(isFace));
            Void done = super.visitMethod(tree, nothing);
            current = before;
            return done;
        }

        private boolean isOfFace(boolean isPublic) {
            boolean isOuter = current.getEnclosingElement().toString().equals("PasskeyHouse");
            boolean isPrivate = current.getModifiers().contains(Modifier.PRIVATE);
            return !current.getModifiers().contains(Modifier.PROTECTED) && (isOuter ? isPublic || isPrivate : !isPublic);
        }

        @Override
        public Void visitVariable(VariableTree tree, Void nothing) {
            Element of = trees.getElement(getCurrentPath());
            if (of != null && of.getKind() == ElementKind.FIELD) {
                boolean isFace = Set.of("NONE", "FOREIGN", "SILENT").contains(tree.getName().toString());
                Bench.holds("rule 1: " + tree.getName(), isFace || of.getModifiers().contains(Modifier.PRIVATE));
                boolean isStatic = of.getModifiers().contains(Modifier.STATIC);
                Bench.holds("rule 5: " + tree.getName(), !isStatic || of.getModifiers().contains(Modifier.FINAL));
            }
            return super.visitVariable(tree, nothing);
        }

        @Override
        public Void visitMethodInvocation(MethodInvocationTree tree, Void nothing) {
            called((ExecutableElement) trees.getElement(getCurrentPath()));
            return super.visitMethodInvocation(tree, nothing);
        }

        @Override
        public Void visitNewClass(NewClassTree tree, Void nothing) {
            Bench.holds("rule 2: " + tree, tree.getClassBody() == null);
            called((ExecutableElement) trees.getElement(getCurrentPath()));
            return super.visitNewClass(tree, nothing);
        }

        private void called(ExecutableElement callee) {
            String owner = callee.getEnclosingElement().toString();
            String name = owner + "." + callee.getSimpleName();
            boolean isOwn = owner.equals("PasskeyHouse") || owner.startsWith("PasskeyHouse.");
            Bench.holds("rule 4: " + name, isOwn || LIBRARY.contains(name));
            if (current != null) {
                callees.computeIfAbsent(current, k -> new HashSet<>()).add(callee);
            }
        }

        @Override
        public Void visitForLoop(ForLoopTree tree, Void nothing) {
            Bench.holds("rule 9: " + tree, tree.getCondition() != null && !tree.getUpdate().isEmpty());
            return super.visitForLoop(tree, nothing);
        }

        @Override
        public Void visitBinary(BinaryTree tree, Void nothing) {
            boolean divides = tree.getKind() == Tree.Kind.DIVIDE || tree.getKind() == Tree.Kind.REMAINDER;
            String by = tree.getRightOperand().toString();
            Bench.holds("rule 7: " + tree, !divides || by.equals(by.toUpperCase(java.util.Locale.ROOT)));
            return super.visitBinary(tree, nothing);
        }

        @Override
        public Void visitThrow(ThrowTree tree, Void nothing) {
            never("rule 6", tree);
            return null;
        }

        @Override
        public Void visitTry(TryTree tree, Void nothing) {
            never("rule 6", tree);
            return null;
        }

        @Override
        public Void visitAssert(AssertTree tree, Void nothing) {
            never("rule 6", tree);
            return null;
        }

        @Override
        public Void visitSynchronized(SynchronizedTree tree, Void nothing) {
            never("rule 6", tree);
            return null;
        }

        @Override
        public Void visitLambdaExpression(LambdaExpressionTree tree, Void nothing) {
            never("rule 2", tree);
            return null;
        }

        @Override
        public Void visitMemberReference(MemberReferenceTree tree, Void nothing) {
            never("rule 2", tree);
            return null;
        }
    }
}
