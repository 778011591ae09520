import com.sun.source.tree.ClassTree;
import com.sun.source.tree.CompilationUnitTree;
import com.sun.source.tree.ImportTree;
import com.sun.source.tree.MethodInvocationTree;
import com.sun.source.tree.MethodTree;
import com.sun.source.tree.NewArrayTree;
import com.sun.source.tree.NewClassTree;
import com.sun.source.tree.ThrowTree;
import com.sun.source.tree.Tree;
import com.sun.source.tree.VariableTree;
import com.sun.source.util.JavacTask;
import com.sun.source.util.SourcePositions;
import com.sun.source.util.TreePathScanner;
import com.sun.source.util.Trees;
import java.io.File;
import java.io.IOException;
import java.util.HashMap;
import java.util.LinkedHashSet;
import java.util.List;
import java.util.Map;
import java.util.Set;
import javax.lang.model.element.Element;
import javax.lang.model.element.ElementKind;
import javax.lang.model.element.Modifier;
import javax.tools.JavaCompiler;
import javax.tools.StandardJavaFileManager;
import javax.tools.ToolProvider;

/**
 * The program keeps to those rules of LANGUAGE.md that can be seen in its text; the compiler reads it.
 * Rule 11 did not hold for promise 13 once: madeIn() went nine calls deep, the library's counted.
 */
public final class LanguageTest extends TreePathScanner<Void, Void> {
    private static final String PROGRAM = "src/main/java/BorderDesk.java";
    private static final int MOST_PARAMETERS = 7;
    private static final int MOST_LINES = 60;
    private static final int MOST_DEPTH = 8;
    private static final int MOST_CLASSES = 12;
    private static final int MOST_FIELDS = 20;
    private static final Set<String> LIBRARY = Set.of("java.util.NoSuchElementException");
    private static final Set<String> THROWN = Set.of("IllegalStateException", "IllegalArgumentException",
            "NoSuchElementException", "UnsupportedOperationException");
    private static final Set<Tree.Kind> NO_CODE_AS_VALUE =
            Set.of(Tree.Kind.LAMBDA_EXPRESSION, Tree.Kind.MEMBER_REFERENCE);
    private static final Set<Tree.Kind> NO_STATEMENT =
            Set.of(Tree.Kind.TRY, Tree.Kind.ASSERT, Tree.Kind.SYNCHRONIZED);
    /** What rule 4 lists and the program has a use for. */
    private static final Set<String> LIBRARY_CALLS = Set.of("java.lang.Math.max(int,int)",
            "java.lang.Math.max(long,long)", "java.lang.Math.min(int,int)",
            "java.lang.Integer.bitCount(int)",
            "java.lang.System.arraycopy(java.lang.Object,int,java.lang.Object,int,int)");

    private final Trees trees;
    private final CompilationUnitTree unit;
    private final Map<Element, Set<Element>> calls = new HashMap<>();
    /** The method whose text is being read, or the class while its fields are. */
    private Element place;
    private int classes;

    private LanguageTest(Trees trees, CompilationUnitTree unit) {
        this.trees = trees;
        this.unit = unit;
    }

    public static void main(String[] args) throws IOException {
        JavaCompiler compiler = ToolProvider.getSystemJavaCompiler();
        try (StandardJavaFileManager files = compiler.getStandardFileManager(null, null, null)) {
            JavacTask task = (JavacTask) compiler.getTask(null, files, null, List.of("-proc:none"), null,
                    files.getJavaFileObjects(new File(PROGRAM)));
            CompilationUnitTree unit = task.parse().iterator().next();
            task.analyze();
            LanguageTest test = new LanguageTest(Trees.instance(task), unit);
            test.scan(unit, null);
            test.checkWhole();
        }
        Run.finish();
    }

    private void checkWhole() {
        check(11, classes <= MOST_CLASSES, "there are " + classes + " classes");
        for (Element each : calls.keySet()) {
            int depth = depthOf(each, new LinkedHashSet<>());
            check(11, depth <= MOST_DEPTH, each + " goes " + depth + " calls deep");
        }
    }

    /** How many calls stand open at once behind this one, the library's and itself counted. */
    private int depthOf(Element called, Set<Element> open) {
        if (!open.add(called)) {
            Run.fault("LANGUAGE.md rule 8: " + called + " calls itself: " + open);
            return 0;
        }
        int deepest = 0;
        for (Element next : calls.getOrDefault(called, Set.of())) {
            deepest = Math.max(deepest, depthOf(next, open));
        }
        open.remove(called);
        return deepest + 1;
    }

    @Override
    public Void scan(Tree tree, Void none) {
        if (tree != null) {
            check(2, !NO_CODE_AS_VALUE.contains(tree.getKind()), tree + " stands in " + place);
            check(6, !NO_STATEMENT.contains(tree.getKind()), tree + " stands in " + place);
        }
        return super.scan(tree, none);
    }

    @Override
    public Void visitImport(ImportTree tree, Void none) {
        String name = tree.getQualifiedIdentifier().toString();
        check(4, LIBRARY.contains(name), name + " is imported");
        return super.visitImport(tree, none);
    }

    @Override
    public Void visitClass(ClassTree tree, Void none) {
        enter(trees.getElement(getCurrentPath()));
        classes++;
        int fields = 0;
        for (Tree member : tree.getMembers()) {
            if (member instanceof VariableTree field) {
                Set<Modifier> flags = field.getModifiers().getFlags();
                boolean isStatic = flags.contains(Modifier.STATIC);
                check(5, !isStatic || flags.contains(Modifier.FINAL) && field.getType().toString().equals("int"),
                        "static field " + field.getName());
                fields += isStatic ? 0 : 1;
            }
            check(5, member.getKind() != Tree.Kind.BLOCK, "a block initialises " + tree.getSimpleName());
        }
        check(11, fields <= MOST_FIELDS, tree.getSimpleName() + " has " + fields + " fields");
        return super.visitClass(tree, none);
    }

    @Override
    public Void visitMethod(MethodTree tree, Void none) {
        enter(trees.getElement(getCurrentPath()));
        int parameters = tree.getParameters().size();
        check(11, parameters <= MOST_PARAMETERS, place + " has " + parameters + " parameters");
        SourcePositions at = trees.getSourcePositions();
        long first = unit.getLineMap().getLineNumber(Math.max(0, at.getStartPosition(unit, tree)));
        long last = unit.getLineMap().getLineNumber(Math.max(0, at.getEndPosition(unit, tree)));
        check(11, last - first < MOST_LINES, place + " has " + (last - first + 1) + " lines");
        return super.visitMethod(tree, none);
    }

    @Override
    public Void visitMethodInvocation(MethodInvocationTree tree, Void none) {
        Element called = trees.getElement(getCurrentPath());
        String owner = called.getEnclosingElement().toString();
        boolean isOwn = owner.startsWith("BorderDesk") || called.getKind() == ElementKind.CONSTRUCTOR;
        check(4, isOwn || LIBRARY_CALLS.contains(owner + "." + called), owner + "." + called + " is called");
        calls.get(place).add(called);
        return super.visitMethodInvocation(tree, none);
    }

    @Override
    public Void visitNewClass(NewClassTree tree, Void none) {
        String name = tree.getIdentifier().toString();
        boolean isOwn = trees.getElement(getCurrentPath()).getEnclosingElement().toString().startsWith("BorderDesk");
        check(4, isOwn || THROWN.contains(name), "new " + name);
        check(12, !isOwn || isMaking(), place + " makes a " + name);
        if (isOwn) {
            calls.get(place).add(trees.getElement(getCurrentPath()));
        }
        return super.visitNewClass(tree, none);
    }

    @Override
    public Void visitNewArray(NewArrayTree tree, Void none) {
        check(12, isMaking(), place + " makes " + tree);
        return super.visitNewArray(tree, none);
    }

    @Override
    public Void visitThrow(ThrowTree tree, Void none) {
        check(6, tree.getExpression() instanceof NewClassTree made && made.getArguments().isEmpty(),
                "throw " + tree.getExpression());
        check(6, place.getKind() != ElementKind.CONSTRUCTOR, "a constructor throws");
        return super.visitThrow(tree, none);
    }

    private void enter(Element entered) {
        place = entered;
        calls.put(entered, new LinkedHashSet<>());
    }

    private boolean isMaking() {
        return place.getKind() == ElementKind.CLASS || place.getKind() == ElementKind.CONSTRUCTOR;
    }

    private static void check(int rule, boolean kept, String text) {
        if (!kept) {
            Run.fault("LANGUAGE.md rule " + rule + ": " + text);
        }
    }
}
