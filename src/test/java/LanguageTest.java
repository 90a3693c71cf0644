import com.sun.source.tree.*;
import com.sun.source.util.JavacTask;
import com.sun.source.util.TreePath;
import com.sun.source.util.TreePathScanner;
import com.sun.source.util.Trees;
import java.io.File;
import java.io.IOException;
import java.util.HashMap;
import java.util.LinkedHashSet;
import java.util.List;
import java.util.Map;
import java.util.Set;
import javax.lang.model.element.Element;
import javax.lang.model.element.ElementKind;
import javax.lang.model.element.ExecutableElement;
import javax.lang.model.element.Modifier;
import javax.lang.model.element.TypeElement;
import javax.lang.model.element.VariableElement;
import javax.lang.model.type.ArrayType;
import javax.lang.model.type.TypeKind;
import javax.lang.model.type.TypeMirror;
import javax.tools.JavaCompiler;
import javax.tools.StandardJavaFileManager;
import javax.tools.ToolProvider;

/**
 * The rules of LANGUAGE.md, so far as a program can read them off the source. Those of what the class may use are
 * held more narrowly than they are: just what it does use. It must be run in the project's folder.
 */
public final class LanguageTest {
    private static final File SOURCE = new File("src/main/java/WhisperedPots.java");

    private static final Set<String> LIBRARY = Set.of("java.lang.System.arraycopy", "java.lang.Math.min",
        "java.lang.Math.max", "java.lang.Math.abs", "java.lang.Object.<init>",
        "java.lang.IndexOutOfBoundsException.<init>", "java.lang.IllegalArgumentException.<init>",
        "java.lang.IllegalStateException.<init>");
    private static final Set<String> EXCEPTIONS = Set.of("IndexOutOfBoundsException", "IllegalArgumentException",
        "IllegalStateException");
    private static final Set<Tree.Kind> NOT_USED = Set.of(Tree.Kind.LAMBDA_EXPRESSION, Tree.Kind.MEMBER_REFERENCE,
        Tree.Kind.TRY, Tree.Kind.SYNCHRONIZED, Tree.Kind.ASSERT, Tree.Kind.WHILE_LOOP, Tree.Kind.DO_WHILE_LOOP,
        Tree.Kind.INSTANCE_OF, Tree.Kind.IMPORT, Tree.Kind.PACKAGE, Tree.Kind.STRING_LITERAL);

    private static final Check check = new Check("LanguageTest");

    /** What each method calls of the class's own methods. */
    private static final Map<Element, Set<Element>> calls = new HashMap<>();

    private static void rule(int number, String what, boolean kept) {
        check.same("rule " + number + ": " + what, kept ? 1 : 0, 1);
    }

    private static final class Reader extends TreePathScanner<Void, Void> {
        private final Trees trees;
        private final CompilationUnitTree unit;
        private int classes = 0;

        Reader(Trees trees, CompilationUnitTree unit) {
            this.trees = trees;
            this.unit = unit;
        }

        private String line(Tree tree) {
            return tree.getKind() + " in line " + lineAt(trees.getSourcePositions().getStartPosition(unit, tree));
        }

        private long lineAt(long position) {
            return unit.getLineMap().getLineNumber(position);
        }

        private Element element() {
            return trees.getElement(getCurrentPath());
        }

        private MethodTree method() {
            for (TreePath path = getCurrentPath(); path != null; path = path.getParentPath()) {
                if (path.getLeaf() instanceof MethodTree) {
                    return (MethodTree) path.getLeaf();
                }
            }
            return null;
        }

        @Override
        public Void scan(Tree tree, Void none) {
            if (tree != null) {
                boolean used = !NOT_USED.contains(tree.getKind());
                boolean textOfThrow = tree.getKind() == Tree.Kind.STRING_LITERAL
                        && getCurrentPath().getLeaf() instanceof NewClassTree
                        && getCurrentPath().getParentPath().getLeaf() instanceof ThrowTree;
                check.same("code that the class does without: " + line(tree), used || textOfThrow ? 1 : 0, 1);
            }
            return super.scan(tree, none);
        }

        @Override
        public Void visitClass(ClassTree tree, Void none) {
            classes++;
            int fields = 0;
            for (Tree member : tree.getMembers()) {
                rule(5, line(member), member.getKind() != Tree.Kind.BLOCK);
                if (member instanceof VariableTree) {
                    Set<Modifier> modifiers = ((VariableTree) member).getModifiers().getFlags();
                    boolean fixed = modifiers.contains(Modifier.STATIC);
                    rule(5, line(member), !fixed || modifiers.contains(Modifier.FINAL));
                    fields += fixed ? 0 : 1;
                }
            }
            rule(11, fields + " fields of " + tree.getSimpleName(), fields <= 20);
            boolean inside = getCurrentPath().getParentPath().getLeaf() instanceof ClassTree;
            Set<Modifier> modifiers = tree.getModifiers().getFlags();
            boolean hidden = modifiers.contains(Modifier.PRIVATE) && modifiers.contains(Modifier.STATIC);
            rule(1, line(tree), !inside || hidden);
            return super.visitClass(tree, none);
        }

        @Override
        public Void visitMethod(MethodTree tree, Void none) {
            calls.put(element(), new LinkedHashSet<>());
            rule(11, line(tree), tree.getParameters().size() <= 7);
            long lines = lineAt(trees.getSourcePositions().getEndPosition(unit, tree))
                    - lineAt(trees.getSourcePositions().getStartPosition(unit, tree)) + 1;
            rule(11, line(tree) + " of " + lines + " lines", lines <= 60);
            return super.visitMethod(tree, none);
        }

        @Override
        public Void visitVariable(VariableTree tree, Void none) {
            TypeMirror type = ((VariableElement) element()).asType();
            if (type instanceof ArrayType) {
                type = ((ArrayType) type).getComponentType();
            }
            boolean own = type.getKind() == TypeKind.DECLARED && type.toString().startsWith("WhisperedPots.");
            rule(3, line(tree), own || type.getKind().isPrimitive());
            return super.visitVariable(tree, none);
        }

        @Override
        public Void visitMethodInvocation(MethodInvocationTree tree, Void none) {
            called((ExecutableElement) element(), tree);
            return super.visitMethodInvocation(tree, none);
        }

        private void called(ExecutableElement method, Tree tree) {
            TypeElement owner = (TypeElement) method.getEnclosingElement();
            String name = owner.getQualifiedName() + "." + method.getSimpleName();
            boolean own = name.startsWith("WhisperedPots.");
            rule(4, line(tree) + " of " + name, own || LIBRARY.contains(name));
            if (own && method() != null) {
                calls.get(trees.getElement(trees.getPath(unit, method()))).add(method);
            }
        }

        @Override
        public Void visitNewClass(NewClassTree tree, Void none) {
            called((ExecutableElement) element(), tree);
            rule(2, line(tree), tree.getClassBody() == null);
            boolean thrown = getCurrentPath().getParentPath().getLeaf() instanceof ThrowTree;
            rule(12, line(tree), thrown || madeAtFirst());
            return super.visitNewClass(tree, none);
        }

        @Override
        public Void visitNewArray(NewArrayTree tree, Void none) {
            rule(12, line(tree), madeAtFirst());
            return super.visitNewArray(tree, none);
        }

        /** In a constructor, or with a field. */
        private boolean madeAtFirst() {
            return method() == null || method().getReturnType() == null;
        }

        @Override
        public Void visitThrow(ThrowTree tree, Void none) {
            boolean made = tree.getExpression() instanceof NewClassTree;
            rule(6, line(tree), made && method().getReturnType() != null);
            if (made) {
                NewClassTree exception = (NewClassTree) tree.getExpression();
                rule(6, line(tree), EXCEPTIONS.contains(exception.getIdentifier().toString()));
            }
            return super.visitThrow(tree, none);
        }

        @Override
        public Void visitForLoop(ForLoopTree tree, Void none) {
            rule(9, line(tree), tree.getCondition() != null && tree.getUpdate().size() == 1);
            return super.visitForLoop(tree, none);
        }
    }

    /** How many calls stand open at most, this one with them; far more than allowed if they are a recursion. */
    private static int depth(Element method, int above) {
        if (above > 50) {
            return 1000;
        }
        int most = 0;
        for (Element called : calls.getOrDefault(method, Set.of())) {
            most = Math.max(most, depth(called, above + 1));
        }
        return most + 1;
    }

    public static void main(String[] args) throws IOException {
        JavaCompiler compiler = ToolProvider.getSystemJavaCompiler();
        StandardJavaFileManager files = compiler.getStandardFileManager(null, null, null);
        List<String> options = List.of("--release", "17", "-proc:none");
        JavacTask task = (JavacTask) compiler.getTask(null, files, null, options, null,
            files.getJavaFileObjects(SOURCE));
        CompilationUnitTree unit = task.parse().iterator().next();
        task.analyze();
        rule(1, "one class alone in the file", unit.getTypeDecls().size() == 1);
        Reader reader = new Reader(Trees.instance(task), unit);
        reader.scan(unit, null);
        rule(11, reader.classes + " classes", reader.classes <= 12);
        for (Element method : calls.keySet()) {
            int depth = depth(method, 0);
            rule(depth < 1000 ? 11 : 8, method + " opens " + depth + " calls", depth <= 8);
        }
        rule(11, "methods were found", calls.size() > 25);
        check.end();
    }
}
