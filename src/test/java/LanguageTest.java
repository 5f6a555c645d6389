import com.sun.source.tree.*;
import com.sun.source.util.*;
import java.nio.file.Files;
import java.nio.file.Path;
import java.util.*;
import javax.lang.model.element.*;
import javax.lang.model.type.TypeMirror;
import javax.tools.JavaCompiler;
import javax.tools.JavaFileObject;
import javax.tools.StandardJavaFileManager;
import javax.tools.ToolProvider;

/** The rules of ../shared/LANGUAGE.md, held against the class as the compiler reads it. */
public final class LanguageTest extends TreePathScanner<Void, Void> {
    private static final Path SOURCE = Path.of("src/main/java/NoViewWithoutQuarrel.java");
    private static final String FACE = "NoViewWithoutQuarrel";

    /** Rules 2, 6: what stands nowhere. */
    private static final Set<Tree.Kind> NEVER = EnumSet.of(Tree.Kind.LAMBDA_EXPRESSION, Tree.Kind.MEMBER_REFERENCE,
        Tree.Kind.THROW, Tree.Kind.TRY, Tree.Kind.CATCH, Tree.Kind.SYNCHRONIZED, Tree.Kind.ASSERT, Tree.Kind.ANNOTATION,
        Tree.Kind.TYPE_CAST, Tree.Kind.FLOAT_LITERAL, Tree.Kind.DOUBLE_LITERAL, Tree.Kind.PACKAGE);
    /** The one cast that there is takes an int for a sign, which is always safe. */
    private static final Set<String> CASTS = Set.of("char", "byte", "short");
    /** Rule 3, so far as the class needs it. */
    private static final Set<String> TYPES = Set.of("int", "long", "boolean", "char", "byte", "short", "String", "void");
    /** Rule 4, so far as the class needs it. */
    private static final Set<String> LIBRARY = Set.of("String.length", "String.charAt", "String.indexOf", "Math.max",
        "Math.min", "Math.abs", "Long.bitCount", "Integer.bitCount", "System.arraycopy", "Arrays.fill");
    /** Rule 5. */
    private static final Set<String> STATIC_TYPES = Set.of("int", "long", "boolean", "char", "String", "int[]", "long[]",
        "char[]", "byte[]");
    /** Rule 8: they call one another, and carry how much is open. */
    private static final Set<String> RECURSIVE = Set.of("chain", "link", "denial", "one");

    private final Trees trees;
    private final CompilationUnitTree unit;
    private final Set<String> own = new HashSet<>();
    private final Map<Element, Set<Element>> calls = new LinkedHashMap<>();
    private int classes;

    private LanguageTest(Trees trees, CompilationUnitTree unit) {
        this.trees = trees;
        this.unit = unit;
    }

    public static void main(String[] args) throws Exception {
        JavaCompiler compiler = ToolProvider.getSystemJavaCompiler();
        try (StandardJavaFileManager files = compiler.getStandardFileManager(null, null, null)) {
            Iterable<? extends JavaFileObject> source = files.getJavaFileObjects(SOURCE);
            JavacTask task = (JavacTask) compiler.getTask(null, files, null, List.of("-proc:none"), null, source);
            CompilationUnitTree unit = task.parse().iterator().next();
            task.analyze();
            LanguageTest test = new LanguageTest(Trees.instance(task), unit);
            test.findClasses();
            test.scan(unit, null);
            Check.holds("rule 11: some twelve classes at most", test.classes <= 12);
            test.depth();
        }
        Check.holds("rule 4: signs of the source are 1 .. 127",
            Files.readString(SOURCE).chars().allMatch(c -> c > 0 && c < 128));
        Check.end();
    }

    private void findClasses() {
        new TreeScanner<Void, Void>() {
            @Override
            public Void visitClass(ClassTree tree, Void none) {
                own.add(tree.getSimpleName().toString());
                return super.visitClass(tree, none);
            }
        }.scan(unit, null);
    }

    private void holds(String rule, Tree tree, boolean is) {
        long line = unit.getLineMap().getLineNumber(trees.getSourcePositions().getStartPosition(unit, tree));
        Check.holds(rule + ", line " + line, is);
    }

    @Override
    public Void scan(Tree tree, Void none) {
        if (tree != null && tree.getKind() != Tree.Kind.TYPE_CAST) {
            holds("rules 2, 6: no " + tree.getKind(), tree, !NEVER.contains(tree.getKind()));
        }
        return super.scan(tree, none);
    }

    @Override
    public Void visitImport(ImportTree tree, Void none) {
        holds("rule 4: the library", tree, tree.getQualifiedIdentifier().toString().equals("java.util.Arrays"));
        return super.visitImport(tree, none);
    }

    @Override
    public Void visitTypeCast(TypeCastTree tree, Void none) {
        holds("rule 6: a cast that is always safe", tree, CASTS.contains(tree.getType().toString()));
        return super.visitTypeCast(tree, none);
    }

    @Override
    public Void visitClass(ClassTree tree, Void none) {
        classes++;
        boolean outer = tree.getSimpleName().contentEquals(FACE);
        Set<Modifier> modifiers = tree.getModifiers().getFlags();
        holds("rule 1: the face alone is public", tree, modifiers.contains(Modifier.PUBLIC) == outer);
        holds("rule 2: classes inside are static", tree, outer || modifiers.contains(Modifier.STATIC));
        holds("rule 2: no class in a method or a class inside", tree, outer || isFace(getCurrentPath().getParentPath()));
        int fields = 0;
        for (Tree member : tree.getMembers()) {
            holds("rule 5: no block of a class", member, member.getKind() != Tree.Kind.BLOCK);
            if (member instanceof VariableTree field && !field.getModifiers().getFlags().contains(Modifier.STATIC)) {
                fields++;
            }
        }
        holds("rule 11: some twenty fields at most", tree, fields <= 20);
        return super.visitClass(tree, none);
    }

    private static boolean isFace(TreePath path) {
        return path.getLeaf() instanceof ClassTree c && c.getSimpleName().contentEquals(FACE);
    }

    @Override
    public Void visitVariable(VariableTree tree, Void none) {
        holds("rule 3: the type " + tree.getType(), tree, isKnown(tree.getType().toString()));
        if (tree.getModifiers().getFlags().contains(Modifier.STATIC)) {
            holds("rule 5: static fields are final", tree, tree.getModifiers().getFlags().contains(Modifier.FINAL));
            holds("rule 5: a static field's type", tree, STATIC_TYPES.contains(tree.getType().toString()));
        }
        return super.visitVariable(tree, none);
    }

    /** Arrays of one dimension alone. */
    private boolean isKnown(String type) {
        String name = type.endsWith("[]") ? type.substring(0, type.length() - 2) : type;
        return TYPES.contains(name) || own.contains(name);
    }

    @Override
    public Void visitMethod(MethodTree tree, Void none) {
        holds("rule 11: seven parameters at most", tree, tree.getParameters().size() <= 7);
        holds("rule 3: what " + tree.getName() + " answers", tree,
            tree.getReturnType() == null || isKnown(tree.getReturnType().toString()));
        SourcePositions places = trees.getSourcePositions();
        long lines = unit.getLineMap().getLineNumber(places.getEndPosition(unit, tree))
            - unit.getLineMap().getLineNumber(places.getStartPosition(unit, tree));
        holds("rule 11: a short method", tree, lines <= 60);
        calls.computeIfAbsent(trees.getElement(getCurrentPath()), e -> new LinkedHashSet<>());
        return super.visitMethod(tree, none);
    }

    @Override
    public Void visitNewClass(NewClassTree tree, Void none) {
        holds("rule 2: no class without a name", tree, tree.getClassBody() == null);
        holds("rule 12: objects are made with the object", tree, method() == null);
        return super.visitNewClass(tree, none);
    }

    @Override
    public Void visitNewArray(NewArrayTree tree, Void none) {
        holds("rule 12: arrays are made with the object", tree, method() == null);
        holds("rule 3: one dimension", tree, tree.getDimensions().size() <= 1);
        return super.visitNewArray(tree, none);
    }

    /** The method in which the path stands; null: in none. */
    private Element method() {
        for (TreePath path = getCurrentPath(); path != null; path = path.getParentPath()) {
            if (path.getLeaf().getKind() == Tree.Kind.METHOD) {
                return trees.getElement(path);
            }
        }
        return null;
    }

    @Override
    public Void visitMethodInvocation(MethodInvocationTree tree, Void none) {
        Element called = trees.getElement(getCurrentPath());
        String owner = called.getEnclosingElement().getSimpleName().toString();
        if (own.contains(owner)) {
            calls.computeIfAbsent(method(), e -> new LinkedHashSet<>()).add(called);
        } else if (called.getKind() != ElementKind.CONSTRUCTOR) {
            String name = owner + "." + called.getSimpleName();
            holds("rule 4: the library's " + name, tree, LIBRARY.contains(name));
        }
        return super.visitMethodInvocation(tree, none);
    }

    @Override
    public Void visitAssignment(AssignmentTree tree, Void none) {
        if (tree.getVariable() instanceof ArrayAccessTree access) {
            Element row = trees.getElement(new TreePath(getCurrentPath(), access.getExpression()));
            holds("rule 5: static rows are never changed", tree,
                row == null || !row.getModifiers().contains(Modifier.STATIC));
        }
        return super.visitAssignment(tree, none);
    }

    @Override
    public Void visitBinary(BinaryTree tree, Void none) {
        boolean texts = isText(tree.getLeftOperand()) || isText(tree.getRightOperand());
        holds("rules 6, 10: texts are neither joined by + nor held against one another", tree, !texts);
        return super.visitBinary(tree, none);
    }

    private boolean isText(ExpressionTree tree) {
        TypeMirror type = trees.getTypeMirror(new TreePath(getCurrentPath(), tree));
        return type != null && type.toString().startsWith("java.lang.");
    }

    @Override
    public Void visitForLoop(ForLoopTree tree, Void none) {
        holds("rule 9: a loop's end", tree, ends(tree.getCondition()) && !tree.getUpdate().isEmpty());
        return super.visitForLoop(tree, none);
    }

    @Override
    public Void visitWhileLoop(WhileLoopTree tree, Void none) {
        String body = tree.getStatement().toString();
        holds("rule 9: a loop's end", tree, ends(tree.getCondition()) && (body.contains("++") || body.contains("--")));
        return super.visitWhileLoop(tree, none);
    }

    @Override
    public Void visitDoWhileLoop(DoWhileLoopTree tree, Void none) {
        holds("rule 9: a loop's end", tree, ends(tree.getCondition()));
        return super.visitDoWhileLoop(tree, none);
    }

    /** A counter against a bound is among what a loop asks. */
    private static boolean ends(ExpressionTree condition) {
        return condition != null && condition.toString().matches("(?s).*\\w (<|>=) .*");
    }

    /** Rules 8, 11: who calls itself by way of others, and how deep calls go beside that. */
    private void depth() {
        int deepest = 0;
        for (Element method : calls.keySet()) {
            if (reaches(method, method)) {
                Check.holds("rule 8: " + method + " calls itself", RECURSIVE.contains(method.getSimpleName().toString()));
                boolean counted = method.toString().matches("\\w+\\((int,)?int\\)");
                Check.holds("rule 8: " + method + " carries how much is open", counted);
            }
            deepest = Math.max(deepest, depthFrom(method));
        }
        Check.holds("rule 11: calls go eight deep at most, here " + deepest, deepest <= 8);
    }

    private boolean reaches(Element from, Element to) {
        Set<Element> met = new HashSet<>();
        Deque<Element> next = new ArrayDeque<>(List.of(from));
        while (!next.isEmpty()) {
            for (Element called : calls.getOrDefault(next.pop(), Set.of())) {
                if (called.equals(to)) {
                    return true;
                }
                if (met.add(called)) {
                    next.push(called);
                }
            }
        }
        return false;
    }

    /** Methods that call one another count as one. */
    private int depthFrom(Element method) {
        int deepest = 0;
        for (Element together : calls.keySet()) {
            if (together.equals(method) || reaches(method, together) && reaches(together, method)) {
                for (Element called : calls.get(together)) {
                    deepest = Math.max(deepest, reaches(called, together) ? 0 : depthFrom(called));
                }
            }
        }
        return deepest + 1;
    }
}
