import com.sun.source.tree.*;
import com.sun.source.util.JavacTask;
import com.sun.source.util.SourcePositions;
import com.sun.source.util.TreePath;
import com.sun.source.util.TreePathScanner;
import com.sun.source.util.Trees;
import java.nio.file.Path;
import java.util.ArrayList;
import java.util.HashMap;
import java.util.HashSet;
import java.util.List;
import java.util.Map;
import java.util.Set;
import javax.lang.model.element.Element;
import javax.lang.model.element.ElementKind;
import javax.lang.model.element.ExecutableElement;
import javax.lang.model.element.Modifier;
import javax.lang.model.element.TypeElement;
import javax.lang.model.util.Elements;
import javax.tools.JavaCompiler;
import javax.tools.StandardJavaFileManager;
import javax.tools.ToolProvider;

/** The rules of LANGUAGE.md that a look at the source can tell. */
final class LanguageTest extends TreePathScanner<Void, Void> {
    private static final Path SOURCE = Path.of("src/main/java/TonightCovers.java");
    private static final int CLASSES_MOST = 12, FIELDS_MOST = 20, PARAMETERS_MOST = 7, LINES_MOST = 60, DEPTH_MOST = 8;
    private static final Set<String> LIBRARY = Set.of("String.length", "String.charAt", "System.arraycopy",
        "Integer.bitCount", "Math.max", "Math.min", "Object.<init>");
    private static final Set<Tree.Kind> FORBIDDEN = Set.of(Tree.Kind.THROW, Tree.Kind.TRY, Tree.Kind.CATCH,
        Tree.Kind.SYNCHRONIZED, Tree.Kind.ASSERT, Tree.Kind.LAMBDA_EXPRESSION, Tree.Kind.MEMBER_REFERENCE,
        Tree.Kind.INTERFACE, Tree.Kind.ANNOTATION_TYPE, Tree.Kind.SWITCH_EXPRESSION, Tree.Kind.IMPORT,
        Tree.Kind.DOUBLE_LITERAL, Tree.Kind.FLOAT_LITERAL, Tree.Kind.INSTANCE_OF, Tree.Kind.YIELD);

    private final Trees trees;
    private final Elements elements;
    private final CompilationUnitTree unit;
    private final SourcePositions places;
    private final List<TypeElement> classes = new ArrayList<>();
    private final Map<ExecutableElement, Set<ExecutableElement>> calls = new HashMap<>();

    private LanguageTest(JavacTask task, CompilationUnitTree unit) {
        trees = Trees.instance(task);
        elements = task.getElements();
        places = trees.getSourcePositions();
        this.unit = unit;
    }

    public static void main(String[] args) throws Exception {
        JavaCompiler compiler = ToolProvider.getSystemJavaCompiler();
        try (StandardJavaFileManager files = compiler.getStandardFileManager(null, null, null)) {
            JavacTask task = (JavacTask) compiler.getTask(null, files, null, null, null,
                files.getJavaFileObjects(SOURCE));
            CompilationUnitTree unit = task.parse().iterator().next();
            task.analyze();
            LanguageTest test = new LanguageTest(task, unit);
            test.scan(unit, null);
            test.wholeFile();
        }
        Due.end();
    }

    private void must(boolean holds, Tree where, String rule) {
        if (!holds) {
            long line = unit.getLineMap().getLineNumber(places.getStartPosition(unit, where));
            Due.is("line " + line + ": " + rule, 1, 0);
        }
    }

    private void wholeFile() {
        must(unit.getPackage() == null, unit, "no package");
        must(classes.size() <= CLASSES_MOST, unit, "rule 11: " + classes.size() + " classes");
        for (ExecutableElement method : calls.keySet()) {
            int depth = depth(method, new HashSet<>());
            must(depth <= DEPTH_MOST, trees.getTree(method), "rule 11: " + method + " goes " + depth + " deep");
        }
    }

    // how many methods stand open at once, this one among them; all that a call may run count
    private int depth(ExecutableElement method, Set<ExecutableElement> open) {
        int most = 0;
        if (!open.add(method)) {
            must(false, trees.getTree(method), "rule 8: recursion");
            return 0;
        }
        for (ExecutableElement called : calls.getOrDefault(method, Set.of())) {
            most = Math.max(most, depth(called, open));
        }
        open.remove(method);
        return most + 1;
    }

    @Override
    public Void scan(Tree tree, Void nothing) {
        if (tree != null) {
            must(!FORBIDDEN.contains(tree.getKind()), tree, "no " + tree.getKind());
        }
        return super.scan(tree, nothing);
    }

    @Override
    public Void visitClass(ClassTree tree, Void nothing) {
        TypeElement type = (TypeElement) trees.getElement(getCurrentPath());
        classes.add(type);
        boolean isFace = type.getEnclosingElement().getKind() == ElementKind.PACKAGE;
        Set<Modifier> modifiers = type.getModifiers();
        must(isFace || (modifiers.contains(Modifier.STATIC) && !modifiers.contains(Modifier.PUBLIC)), tree,
            "rule 2: a class inside is static and not public");
        int fields = 0;
        for (Element member : type.getEnclosedElements()) {
            boolean isStatic = member.getModifiers().contains(Modifier.STATIC);
            fields += member.getKind() == ElementKind.FIELD && !isStatic ? 1 : 0;
            must(!isFace || member.getKind() == ElementKind.CLASS || member.getModifiers().contains(Modifier.PUBLIC)
                || member.getModifiers().contains(Modifier.PRIVATE), tree, "rule 1: " + member + " is seen outside");
        }
        must(fields <= FIELDS_MOST, tree, "rule 11: " + fields + " fields");
        return super.visitClass(tree, nothing);
    }

    @Override
    public Void visitVariable(VariableTree tree, Void nothing) {
        Element variable = trees.getElement(getCurrentPath());
        if (variable.getKind() == ElementKind.FIELD && variable.getModifiers().contains(Modifier.STATIC)) {
            String type = variable.asType().toString();
            must(variable.getModifiers().contains(Modifier.FINAL), tree, "rule 5: static, not final");
            must(Set.of("int", "long", "boolean", "char", "java.lang.String", "int[]", "long[]", "char[]", "byte[]")
                .contains(type), tree, "rule 5: static " + type);
            must(tree.getInitializer() != null, tree, "rule 5: written out");
        }
        return super.visitVariable(tree, nothing);
    }

    @Override
    public Void visitMethod(MethodTree tree, Void nothing) {
        ExecutableElement method = (ExecutableElement) trees.getElement(getCurrentPath());
        calls.computeIfAbsent(method, none -> new HashSet<>());
        must(tree.getParameters().size() <= PARAMETERS_MOST, tree, "rule 11: parameters");
        long lines = unit.getLineMap().getLineNumber(places.getEndPosition(unit, tree))
            - unit.getLineMap().getLineNumber(places.getStartPosition(unit, tree)) + 1;
        must(lines <= LINES_MOST, tree, "rule 11: " + lines + " lines");
        boolean isInside = method.getEnclosingElement() != classes.get(0);
        for (Element member : classes.get(0).getEnclosedElements()) {
            boolean isSame = member != method && member.getKind() == ElementKind.METHOD
                && member.getModifiers().contains(Modifier.PUBLIC)
                && member.getSimpleName().equals(method.getSimpleName());
            must(!isSame, tree, "rule 1: bears the name of a public one" + (isInside ? ", inside" : ""));
        }
        return super.visitMethod(tree, nothing);
    }

    // Rule 12 lets methods make objects; here all are made with the object itself, as the room is one for all calls.
    private void mayMake(Tree tree) {
        for (TreePath path = getCurrentPath(); path != null; path = path.getParentPath()) {
            if (path.getLeaf() instanceof MethodTree) {
                must(((MethodTree) path.getLeaf()).getName().contentEquals("<init>"), tree, "made in a call");
            }
        }
    }

    @Override
    public Void visitNewClass(NewClassTree tree, Void nothing) {
        must(tree.getClassBody() == null, tree, "rule 2: anonymous");
        mayMake(tree);
        return super.visitNewClass(tree, nothing);
    }

    @Override
    public Void visitNewArray(NewArrayTree tree, Void nothing) {
        mayMake(tree);
        return super.visitNewArray(tree, nothing);
    }

    @Override
    public Void visitBinary(BinaryTree tree, Void nothing) {
        String type = String.valueOf(trees.getTypeMirror(getCurrentPath()));
        must(!type.equals("java.lang.String"), tree, "rule 10: texts joined by +");
        return super.visitBinary(tree, nothing);
    }

    @Override
    public Void visitMethodInvocation(MethodInvocationTree tree, Void nothing) {
        ExecutableElement called = (ExecutableElement) trees.getElement(new TreePath(getCurrentPath(),
            tree.getMethodSelect()));
        TypeElement owner = (TypeElement) called.getEnclosingElement();
        if (trees.getTree(owner) == null) {
            String name = owner.getSimpleName() + "." + called.getSimpleName();
            must(LIBRARY.contains(name), tree, "rule 4: " + name);
        } else {
            noteCall(called, tree.getMethodSelect().toString().startsWith("super."));
        }
        return super.visitMethodInvocation(tree, nothing);
    }

    private void noteCall(ExecutableElement called, boolean isSuper) {
        TreePath path = getCurrentPath();
        while (path != null && !(path.getLeaf() instanceof MethodTree)) {
            path = path.getParentPath();
        }
        if (path == null) {
            return;
        }
        Set<ExecutableElement> from = calls.computeIfAbsent((ExecutableElement) trees.getElement(path),
            none -> new HashSet<>());
        from.add(called);
        for (Element type : classes.get(0).getEnclosedElements()) {
            for (Element member : type.getEnclosedElements()) {
                if (!isSuper && member.getKind() == ElementKind.METHOD
                    && elements.overrides((ExecutableElement) member, called, (TypeElement) type)) {
                    from.add((ExecutableElement) member);
                }
            }
        }
    }
}
