import com.sun.source.tree.AssertTree;
import com.sun.source.tree.CatchTree;
import com.sun.source.tree.ClassTree;
import com.sun.source.tree.CompilationUnitTree;
import com.sun.source.tree.ImportTree;
import com.sun.source.tree.LambdaExpressionTree;
import com.sun.source.tree.LineMap;
import com.sun.source.tree.MemberReferenceTree;
import com.sun.source.tree.MemberSelectTree;
import com.sun.source.tree.MethodInvocationTree;
import com.sun.source.tree.MethodTree;
import com.sun.source.tree.NewClassTree;
import com.sun.source.tree.SynchronizedTree;
import com.sun.source.tree.ThrowTree;
import com.sun.source.tree.Tree;
import com.sun.source.tree.TryTree;
import com.sun.source.tree.VariableTree;
import com.sun.source.tree.WhileLoopTree;
import com.sun.source.util.JavacTask;
import com.sun.source.util.SourcePositions;
import com.sun.source.util.TreeScanner;
import com.sun.source.util.Trees;
import java.io.File;
import java.io.IOException;
import java.util.List;
import java.util.Map;
import java.util.Set;
import java.util.TreeMap;
import java.util.TreeSet;
import javax.lang.model.element.Modifier;
import javax.tools.JavaCompiler;
import javax.tools.StandardJavaFileManager;
import javax.tools.ToolProvider;

/**
 * The rules of LANGUAGE.md that can be read off the program's text. It is stricter than they are where
 * the program does without what they allow (it throws and catches nothing, and uses no lists or texts).
 */
public final class LanguageTest extends TreeScanner<Void, Void> {
    private static final String PROGRAM = "src/main/java/FieldTables.java";
    private static final int MOST_PARAMETERS = 7;
    private static final int MOST_LINES = 60;
    private static final int DEEPEST = 8;
    private static final int MOST_CLASSES = 12;
    private static final int MOST_FIELDS = 20;
    private static final Set<String> IMPORTS = Set.of("java.util.Arrays");
    private static final Set<String> LIBRARY = Set.of("Math.min", "Arrays.copyOf", "Arrays.fill");
    private static final Set<String> TYPES = Set.of(
            "int", "long", "byte", "boolean", "int[]", "long[]", "byte[]", "TableRows", "FieldStore");
    private static final Set<String> CONSTANT_TYPES = Set.of("int", "long");

    private final CompilationUnitTree unit;
    private final SourcePositions positions;
    private final Map<String, Set<String>> callsOf = new TreeMap<>();
    private String method = "";
    private int classes = 0;

    private LanguageTest(CompilationUnitTree unit, SourcePositions positions) {
        this.unit = unit;
        this.positions = positions;
    }

    public static void main(String[] args) throws IOException {
        JavaCompiler compiler = ToolProvider.getSystemJavaCompiler();
        try (StandardJavaFileManager files = compiler.getStandardFileManager(null, null, null)) {
            JavacTask task = (JavacTask) compiler.getTask(
                    null, files, null, null, null, files.getJavaFileObjects(new File(PROGRAM)));
            SourcePositions positions = Trees.instance(task).getSourcePositions();
            for (CompilationUnitTree unit : task.parse()) {
                new LanguageTest(unit, positions).check();
            }
        }
        Due.end();
    }

    private void check() {
        scan(unit, null);
        Due.holds("no package line", unit.getPackageName() == null);
        Due.is("classes of the file", unit.getTypeDecls().size(), 1);
        Due.holds("rule 11: classes, " + classes, classes <= MOST_CLASSES);
        for (String name : callsOf.keySet()) {
            int depth = depth(name, DEEPEST + 1);
            Due.holds("rule 11: calls from " + name + " go " + depth + " deep", depth <= DEEPEST);
        }
    }

    /** The longest chain of calls of the file's own methods, taken by their names alone. */
    private int depth(String name, int limit) {
        int deepest = 0;
        if (limit > 0) {
            for (String called : callsOf.getOrDefault(name, Set.of())) {
                deepest = Math.max(deepest, callsOf.containsKey(called) ? depth(called, limit - 1) : 0);
            }
        }
        return deepest + 1;
    }

    private void no(String rule, Tree tree) {
        Due.holds("rule " + rule + ": " + tree, false);
    }

    @Override
    public Void visitImport(ImportTree tree, Void none) {
        Due.holds("rule 4: " + tree, IMPORTS.contains(tree.getQualifiedIdentifier().toString()) && !tree.isStatic());
        return null;
    }

    @Override
    public Void visitClass(ClassTree tree, Void none) {
        classes++;
        boolean outer = unit.getTypeDecls().contains(tree);
        Set<Modifier> due = outer
                ? Set.of(Modifier.PUBLIC, Modifier.FINAL)
                : Set.of(Modifier.PRIVATE, Modifier.STATIC, Modifier.FINAL);
        Due.holds("rule 1: " + tree.getSimpleName() + " is " + due, tree.getModifiers().getFlags().equals(due));
        int fields = 0;
        for (Tree member : tree.getMembers()) {
            if (member.getKind() == Tree.Kind.BLOCK) {
                no("5", member);
            } else if (member instanceof VariableTree field) {
                fields += isConstant(field) ? 0 : 1;
            }
        }
        Due.holds("rule 11: " + fields + " fields of " + tree.getSimpleName(), fields <= MOST_FIELDS);
        return super.visitClass(tree, none);
    }

    private static boolean isConstant(VariableTree field) {
        Set<Modifier> flags = field.getModifiers().getFlags();
        if (flags.contains(Modifier.STATIC)) {
            Due.holds("rule 5: " + field, flags.contains(Modifier.FINAL)
                    && CONSTANT_TYPES.contains(field.getType().toString()));
        }
        return flags.contains(Modifier.STATIC);
    }

    @Override
    public Void visitVariable(VariableTree tree, Void none) {
        Due.holds("rule 3: " + tree, TYPES.contains(String.valueOf(tree.getType())));
        return super.visitVariable(tree, none);
    }

    @Override
    public Void visitMethod(MethodTree tree, Void none) {
        method = tree.getName().toString();
        callsOf.computeIfAbsent(method, name -> new TreeSet<>());
        List<? extends VariableTree> parameters = tree.getParameters();
        Due.holds("rule 11: parameters of " + method, parameters.size() <= MOST_PARAMETERS);
        Due.holds("rule 11: lines of " + method, linesOf(tree) <= MOST_LINES);
        Due.holds("rule 6: " + method + " says no throws", tree.getThrows().isEmpty());
        return super.visitMethod(tree, none);
    }

    private long linesOf(Tree tree) {
        LineMap lines = unit.getLineMap();
        return lines.getLineNumber(positions.getEndPosition(unit, tree))
                - lines.getLineNumber(positions.getStartPosition(unit, tree)) + 1;
    }

    @Override
    public Void visitMethodInvocation(MethodInvocationTree tree, Void none) {
        String called = tree.getMethodSelect().toString();
        if (tree.getMethodSelect() instanceof MemberSelectTree select) {
            boolean library = Character.isUpperCase(called.charAt(0));
            Due.holds("rule 4: " + called, !library || LIBRARY.contains(called));
            called = library ? called : select.getIdentifier().toString();
        }
        callsOf.computeIfAbsent(method, name -> new TreeSet<>()).add(called);
        return super.visitMethodInvocation(tree, none);
    }

    @Override
    public Void visitNewClass(NewClassTree tree, Void none) {
        Due.holds("rule 3: " + tree, TYPES.contains(tree.getIdentifier().toString()) && tree.getClassBody() == null);
        return super.visitNewClass(tree, none);
    }

    @Override
    public Void visitWhileLoop(WhileLoopTree tree, Void none) {
        Due.holds("rule 9: a bound in " + tree.getCondition(), tree.getCondition().toString().contains("<"));
        return super.visitWhileLoop(tree, none);
    }

    @Override
    public Void visitLambdaExpression(LambdaExpressionTree tree, Void none) {
        no("2", tree);
        return null;
    }

    @Override
    public Void visitMemberReference(MemberReferenceTree tree, Void none) {
        no("2", tree);
        return null;
    }

    @Override
    public Void visitThrow(ThrowTree tree, Void none) {
        no("6, and the document names no exception", tree);
        return null;
    }

    @Override
    public Void visitTry(TryTree tree, Void none) {
        no("6, and nothing is thrown", tree);
        return null;
    }

    @Override
    public Void visitCatch(CatchTree tree, Void none) {
        no("6, and nothing is thrown", tree);
        return null;
    }

    @Override
    public Void visitSynchronized(SynchronizedTree tree, Void none) {
        no("6", tree);
        return null;
    }

    @Override
    public Void visitAssert(AssertTree tree, Void none) {
        no("6", tree);
        return null;
    }
}
