import com.sun.source.tree.AssertTree;
import com.sun.source.tree.ClassTree;
import com.sun.source.tree.CompilationUnitTree;
import com.sun.source.tree.ExpressionTree;
import com.sun.source.tree.LambdaExpressionTree;
import com.sun.source.tree.LiteralTree;
import com.sun.source.tree.MemberReferenceTree;
import com.sun.source.tree.MethodInvocationTree;
import com.sun.source.tree.MethodTree;
import com.sun.source.tree.NewArrayTree;
import com.sun.source.tree.NewClassTree;
import com.sun.source.tree.SynchronizedTree;
import com.sun.source.tree.ThrowTree;
import com.sun.source.tree.Tree;
import com.sun.source.tree.TryTree;
import com.sun.source.tree.VariableTree;
import com.sun.source.util.JavacTask;
import com.sun.source.util.TreePathScanner;
import com.sun.source.util.Trees;
import java.io.File;
import java.io.IOException;
import java.util.ArrayList;
import java.util.HashMap;
import java.util.LinkedHashSet;
import java.util.List;
import java.util.Map;
import java.util.Set;
import javax.lang.model.element.Element;
import javax.lang.model.element.ElementKind;
import javax.lang.model.element.Modifier;
import javax.tools.JavaCompiler;
import javax.tools.StandardJavaFileManager;
import javax.tools.ToolProvider;

/**
 * Of ../shared/LANGUAGE.md what can be read off the program's own text, as the compiler reads it; the
 * face (rule 1) stands in FaceTest. It is to be run in the project's directory.
 */
public final class RulesTest extends TreePathScanner<Void, Void> {
    private static final String FILE = "src/main/java/LeaseNet.java";
    private static final Set<String> LIBRARY = Set.of("java.util.Arrays.fill", "java.lang.System.arraycopy",
            "java.lang.Math.max", "java.lang.Math.min", "java.lang.Object.<init>");
    private static final Set<String> TYPES = Set.of("int", "long", "boolean", "byte");
    private static final Set<String> THROWN = Set.of("IllegalStateException", "IllegalArgumentException",
            "IndexOutOfBoundsException", "NoSuchElementException");

    private final Trees trees;
    private final CompilationUnitTree file;
    private final Set<String> classes = new LinkedHashSet<>();
    private final Map<Element, Set<Element>> calls = new HashMap<>();
    private Element caller;
    private boolean isMaking;

    private RulesTest(Trees trees, CompilationUnitTree file) {
        this.trees = trees;
        this.file = file;
    }

    public static void main(String[] args) throws IOException {
        JavaCompiler compiler = ToolProvider.getSystemJavaCompiler();
        StandardJavaFileManager files = compiler.getStandardFileManager(null, null, null);
        JavacTask task = (JavacTask) compiler.getTask(null, files, null, List.of("-proc:none", "-Xlint:all"), null,
                files.getJavaFileObjects(new File(FILE)));
        CompilationUnitTree file = task.parse().iterator().next();
        task.analyze();
        RulesTest rules = new RulesTest(Trees.instance(task), file);
        rules.keptByTheFile();
        rules.scan(file, null);
        rules.keptByTheCalls();
        Check.end();
    }

    private void keptByTheFile() {
        Check.same("there is no package line", file.getPackageName() == null, true);
        Check.same("types of the file", file.getTypeDecls().size(), 1);
        ClassTree outer = (ClassTree) file.getTypeDecls().get(0);
        classes.add(outer.getSimpleName().toString());
        for (Tree member : outer.getMembers()) {
            if (member instanceof ClassTree) {
                ClassTree inner = (ClassTree) member;
                classes.add(inner.getSimpleName().toString());
                Check.same(inner.getSimpleName() + " is static", has(inner, Modifier.STATIC), true);
            }
        }
        Check.same("rule 11: some twelve classes", classes.size() <= 12, true);
    }

    private static boolean has(ClassTree c, Modifier modifier) {
        return c.getModifiers().getFlags().contains(modifier);
    }

    private void never(String what) {
        Check.same(what + " is not used", true, false);
    }

    @Override
    public Void visitClass(ClassTree c, Void nothing) {
        int fields = 0;
        for (Tree member : c.getMembers()) {
            if (member instanceof VariableTree) {
                Set<Modifier> flags = ((VariableTree) member).getModifiers().getFlags();
                boolean isStatic = flags.contains(Modifier.STATIC);
                fields += isStatic ? 0 : 1;
                Check.same("rule 5: " + member, !isStatic || flags.contains(Modifier.FINAL), true);
            }
            Check.same("rule 5: a block in " + c.getSimpleName(), member.getKind() == Tree.Kind.BLOCK, false);
        }
        Check.same("rule 11: some twenty fields of " + c.getSimpleName(), fields <= 20, true);
        return super.visitClass(c, nothing);
    }

    @Override
    public Void visitMethod(MethodTree m, Void nothing) {
        String name = "rule 11: " + m.getName();
        Check.same(name + " has at most seven parameters", m.getParameters().size() <= 7, true);
        Check.same(name + " has some sixty lines", linesOf(m) <= 60, true);
        caller = trees.getElement(getCurrentPath());
        calls.putIfAbsent(caller, new LinkedHashSet<>());
        boolean isConstructor = caller.getKind() == ElementKind.CONSTRUCTOR;
        isMaking = isConstructor;
        super.visitMethod(m, nothing);
        isMaking = false;
        caller = null;
        return nothing;
    }

    private long linesOf(Tree t) {
        long first = file.getLineMap().getLineNumber(trees.getSourcePositions().getStartPosition(file, t));
        long last = file.getLineMap().getLineNumber(trees.getSourcePositions().getEndPosition(file, t));
        return last - first + 1;
    }

    @Override
    public Void visitVariable(VariableTree v, Void nothing) {
        String type = v.getType().toString();
        String plain = type.endsWith("[]") ? type.substring(0, type.length() - 2) : type;
        Check.same("rule 3: " + v, TYPES.contains(plain) || classes.contains(plain), true);
        boolean isField = caller == null;
        isMaking = isMaking || isField;
        super.visitVariable(v, nothing);
        isMaking = isMaking && !isField;
        return nothing;
    }

    @Override
    public Void visitMethodInvocation(MethodInvocationTree call, Void nothing) {
        Element called = trees.getElement(getCurrentPath());
        String owner = called.getEnclosingElement().toString();
        if (owner.startsWith("LeaseNet")) {
            calls.get(caller).add(called);
        } else {
            String name = owner + "." + called.getSimpleName();
            Check.same("rule 4: " + name, LIBRARY.contains(name), true);
        }
        return super.visitMethodInvocation(call, nothing);
    }

    @Override
    public Void visitNewClass(NewClassTree made, Void nothing) {
        boolean isThrown = getCurrentPath().getParentPath().getLeaf() instanceof ThrowTree;
        Check.same("rule 12: " + made + " is made once", isThrown || isMaking, true);
        return super.visitNewClass(made, nothing);
    }

    @Override
    public Void visitNewArray(NewArrayTree made, Void nothing) {
        Check.same("rule 12: " + made + " is made once", isMaking, true);
        return super.visitNewArray(made, nothing);
    }

    @Override
    public Void visitThrow(ThrowTree t, Void nothing) {
        Check.same("rule 6: " + t + " stands in no constructor", isMaking, false);
        ExpressionTree what = t.getExpression();
        boolean isNew = what instanceof NewClassTree;
        Check.same("rule 6: " + t, isNew && isPlain((NewClassTree) what), true);
        return super.visitThrow(t, nothing);
    }

    private static boolean isPlain(NewClassTree made) {
        for (ExpressionTree argument : made.getArguments()) {
            if (!(argument instanceof LiteralTree)) {
                return false;
            }
        }
        return THROWN.contains(made.getIdentifier().toString()) && made.getArguments().size() <= 1;
    }

    @Override
    public Void visitLambdaExpression(LambdaExpressionTree t, Void nothing) {
        never("rule 2: a lambda");
        return nothing;
    }

    @Override
    public Void visitMemberReference(MemberReferenceTree t, Void nothing) {
        never("rule 2: a method reference");
        return nothing;
    }

    @Override
    public Void visitTry(TryTree t, Void nothing) {
        never("rule 6: try");
        return nothing;
    }

    @Override
    public Void visitSynchronized(SynchronizedTree t, Void nothing) {
        never("rule 6: synchronized");
        return nothing;
    }

    @Override
    public Void visitAssert(AssertTree t, Void nothing) {
        never("rule 6: assert");
        return nothing;
    }

    private void keptByTheCalls() {
        int deepest = 0;
        for (Element e : calls.keySet()) {
            deepest = Math.max(deepest, depthOf(e, new ArrayList<>()));
        }
        Check.same("rules 8 and 11: calls go at most eight deep", deepest <= 8, true);
    }

    private int depthOf(Element method, List<Element> open) {
        if (open.contains(method)) {
            never("rule 8: " + method + " calls itself: it");
            return 0;
        }
        open.add(method);
        int below = 0;
        for (Element called : calls.getOrDefault(method, Set.of())) {
            below = Math.max(below, depthOf(called, open));
        }
        open.remove(method);
        return below + 1;
    }
}
