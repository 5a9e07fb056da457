import com.sun.source.tree.BlockTree;
import com.sun.source.tree.ClassTree;
import com.sun.source.tree.CompilationUnitTree;
import com.sun.source.tree.ExpressionTree;
import com.sun.source.tree.MemberSelectTree;
import com.sun.source.tree.MethodInvocationTree;
import com.sun.source.tree.MethodTree;
import com.sun.source.tree.NewArrayTree;
import com.sun.source.tree.NewClassTree;
import com.sun.source.tree.ThrowTree;
import com.sun.source.tree.Tree;
import com.sun.source.tree.VariableTree;
import com.sun.source.util.JavacTask;
import com.sun.source.util.SourcePositions;
import com.sun.source.util.TreePath;
import com.sun.source.util.TreePathScanner;
import com.sun.source.util.Trees;
import java.io.IOException;
import java.nio.file.Path;
import java.util.EnumSet;
import java.util.HashMap;
import java.util.HashSet;
import java.util.List;
import java.util.Map;
import java.util.Set;
import javax.lang.model.element.Element;
import javax.lang.model.element.ElementKind;
import javax.lang.model.element.Modifier;
import javax.tools.JavaCompiler;
import javax.tools.StandardJavaFileManager;
import javax.tools.ToolProvider;

/**
 * The rules of ../shared/LANGUAGE.md that can be seen in the class's text, which the compiler takes
 * apart here. FaceTest has rule 1; what holds only while the class runs is for the other tests.
 */
public final class RulesTest extends TreePathScanner<Void, Void> {
    private static final Path SOURCE = Path.of("src/main/java/LimbDesk.java");
    private static final int MOST_LINES = 60;
    private static final int MOST_PARAMETERS = 7;
    private static final int MOST_DEPTH = 8;
    private static final int MOST_CLASSES = 12;
    private static final int MOST_FIELDS = 20;

    /** Not all of it is against the rules, but this class needs none of it. */
    private static final Set<Tree.Kind> UNUSED = EnumSet.of(Tree.Kind.PACKAGE, Tree.Kind.IMPORT, Tree.Kind.LAMBDA_EXPRESSION,
        Tree.Kind.MEMBER_REFERENCE, Tree.Kind.SYNCHRONIZED, Tree.Kind.ASSERT, Tree.Kind.TRY, Tree.Kind.CATCH, Tree.Kind.ANNOTATION);
    private static final String FUNCTION = "java\\.lang\\.(Math|Integer|Long)\\.(?!\\w*Exact\\()\\w+\\(((int|long),?)+\\)";
    private static final String TEXT = "java\\.lang\\.String\\.(length|charAt|isEmpty|equals|substring|toCharArray)\\(.*";
    private static final String COPY = "java\\.lang\\.System\\.arraycopy\\(.*";
    private static final String NOTHING = "java\\.lang\\.Object\\.Object\\(\\)";
    private static final String EXCEPTION = "java\\.lang\\.(IllegalArgument|Arithmetic|IndexOutOfBounds)Exception";
    private static final String CONSTANT = "int|long|boolean|char|java\\.lang\\.String";

    private final Trees trees;
    private final CompilationUnitTree unit;
    /** Which methods each method of the file calls. */
    private final Map<String, Set<String>> calls = new HashMap<>();
    private String method = "";
    private boolean inConstructor;
    private int classes;

    private RulesTest(Trees trees, CompilationUnitTree unit) {
        this.trees = trees;
        this.unit = unit;
    }

    public static void main(String[] args) throws IOException {
        JavaCompiler compiler = ToolProvider.getSystemJavaCompiler();
        try (StandardJavaFileManager files = compiler.getStandardFileManager(null, null, null)) {
            JavacTask task = (JavacTask) compiler.getTask(null, files, null, List.of("-proc:none"), null, files.getJavaFileObjects(SOURCE));
            CompilationUnitTree unit = task.parse().iterator().next();
            task.analyze();
            RulesTest test = new RulesTest(Trees.instance(task), unit);
            Check.sentence("Rules 2 to 6, 11 and 12", () -> test.scan(unit, null));
            Check.sentence("Rule 11: the file has at most some twelve classes", test::classesAreFew);
            Check.sentence("Rules 8 and 11: calls that are no recursion go at most eight deep", test::callsAreNotDeep);
        }
        Check.finish("RulesTest");
    }

    private static void holds(String what, boolean right) {
        Check.due(what, right ? "so" : "not so", "so");
    }

    @Override
    public Void scan(Tree tree, Void none) {
        if (tree != null) {
            holds("there is no " + tree.getKind() + " in " + method, !UNUSED.contains(tree.getKind()));
        }
        return super.scan(tree, none);
    }

    private Element element() {
        return trees.getElement(getCurrentPath());
    }

    private static String fullName(Element element) {
        return element.getEnclosingElement() + "." + element;
    }

    private static boolean isOwn(Element element) {
        return element.getEnclosingElement().toString().matches("LimbDesk(\\..*)?");
    }

    @Override
    public Void visitClass(ClassTree tree, Void none) {
        classes++;
        int fields = 0;
        for (Tree member : tree.getMembers()) {
            if (member instanceof VariableTree field && !field.getModifiers().getFlags().contains(Modifier.STATIC)) {
                fields++;
            }
            holds("rule 5: no static initialiser in " + tree.getSimpleName(), !(member instanceof BlockTree));
        }
        holds("rule 11: " + tree.getSimpleName() + " has some twenty fields at most", fields <= MOST_FIELDS);
        return super.visitClass(tree, none);
    }

    @Override
    public Void visitVariable(VariableTree tree, Void none) {
        Set<Modifier> flags = tree.getModifiers().getFlags();
        if (flags.contains(Modifier.STATIC)) {
            holds("rule 5: " + tree.getName() + " is final", flags.contains(Modifier.FINAL));
            holds("rule 5: " + tree.getName() + " is a constant", element().asType().toString().matches(CONSTANT));
        }
        return super.visitVariable(tree, none);
    }

    @Override
    public Void visitMethod(MethodTree tree, Void none) {
        method = fullName(element());
        inConstructor = tree.getReturnType() == null;
        calls.put(method, new HashSet<>());
        holds("rule 11: " + method + " takes at most seven parameters", tree.getParameters().size() <= MOST_PARAMETERS);
        holds("rule 11: " + method + " has some sixty lines at most", lines(tree) <= MOST_LINES);
        return super.visitMethod(tree, none);
    }

    private long lines(Tree tree) {
        SourcePositions positions = trees.getSourcePositions();
        long first = unit.getLineMap().getLineNumber(positions.getStartPosition(unit, tree));
        return unit.getLineMap().getLineNumber(Math.max(positions.getEndPosition(unit, tree), 0)) - first + 1;
    }

    @Override
    public Void visitMethodInvocation(MethodInvocationTree tree, Void none) {
        String name = fullName(element());
        calls.get(method).add(name);
        boolean listed = name.matches(FUNCTION) || name.matches(TEXT) || name.matches(COPY) || name.matches(NOTHING);
        holds("rule 4: " + method + " may call " + name, isOwn(element()) || listed);
        return super.visitMethodInvocation(tree, none);
    }

    @Override
    public Void visitNewClass(NewClassTree tree, Void none) {
        calls.get(method).add(fullName(element()));
        boolean thrown = getCurrentPath().getParentPath().getLeaf().getKind() == Tree.Kind.THROW;
        holds("rule 4: " + method + " may make " + tree, isOwn(element()) || thrown);
        holds("rule 12: " + method + " makes no object but what it throws", inConstructor || thrown);
        return super.visitNewClass(tree, none);
    }

    @Override
    public Void visitNewArray(NewArrayTree tree, Void none) {
        holds("rule 12: " + method + " makes no row", inConstructor);
        return super.visitNewArray(tree, none);
    }

    @Override
    public Void visitThrow(ThrowTree tree, Void none) {
        holds("rule 6: no throw in " + method, !inConstructor);
        holds("rule 6: " + method + " may say " + tree, tree.getExpression() instanceof NewClassTree made
            && trees.getTypeMirror(new TreePath(getCurrentPath(), made)).toString().matches(EXCEPTION)
            && areWritten(made.getArguments()));
        return super.visitThrow(tree, none);
    }

    private static boolean areWritten(List<? extends ExpressionTree> arguments) {
        return arguments.isEmpty() || arguments.get(0).getKind() == Tree.Kind.STRING_LITERAL;
    }

    @Override
    public Void visitMemberSelect(MemberSelectTree tree, Void none) {
        boolean foreign = element().getKind() == ElementKind.FIELD && !isOwn(element());
        holds("rule 4: " + method + " may use " + tree, !foreign || tree.getIdentifier().contentEquals("length"));
        return super.visitMemberSelect(tree, none);
    }

    private void classesAreFew() {
        holds("there are classes", classes > 0);
        holds("there are twelve classes at most", classes <= MOST_CLASSES);
    }

    private void callsAreNotDeep() {
        for (String one : calls.keySet()) {
            holds("calls from " + one + " go neither too deep nor round", depthOf(one, MOST_DEPTH + 1) <= MOST_DEPTH);
        }
    }

    private int depthOf(String one, int limit) {
        int deepest = 0;
        if (limit > 1) {
            for (String called : calls.getOrDefault(one, Set.of())) {
                deepest = Math.max(deepest, depthOf(called, limit - 1));
            }
        }
        return deepest + 1;
    }
}
