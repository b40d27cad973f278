import com.sun.source.tree.BlockTree;
import com.sun.source.tree.CatchTree;
import com.sun.source.tree.ClassTree;
import com.sun.source.tree.CompilationUnitTree;
import com.sun.source.tree.ExpressionTree;
import com.sun.source.tree.IdentifierTree;
import com.sun.source.tree.ImportTree;
import com.sun.source.tree.LambdaExpressionTree;
import com.sun.source.tree.LiteralTree;
import com.sun.source.tree.MemberReferenceTree;
import com.sun.source.tree.MethodInvocationTree;
import com.sun.source.tree.MethodTree;
import com.sun.source.tree.NewClassTree;
import com.sun.source.tree.SynchronizedTree;
import com.sun.source.tree.ThrowTree;
import com.sun.source.tree.Tree;
import com.sun.source.tree.TryTree;
import com.sun.source.tree.VariableTree;
import com.sun.source.util.JavacTask;
import com.sun.source.util.TreePath;
import com.sun.source.util.TreePathScanner;
import com.sun.source.util.Trees;
import java.nio.file.Path;
import java.util.List;
import java.util.Map;
import java.util.Set;
import java.util.TreeMap;
import java.util.TreeSet;
import javax.lang.model.element.Element;
import javax.lang.model.element.ElementKind;
import javax.lang.model.element.Modifier;
import javax.tools.JavaCompiler;
import javax.tools.StandardJavaFileManager;
import javax.tools.ToolProvider;

/** Those of LANGUAGE.md's rules that the class's text shows: it is read by the compiler, and looked through. */
public final class RulesTest extends TreePathScanner<Void, Void> {
    private static final Checks CHECKS = new Checks("RulesTest");
    private static final Set<String> IMPORTS = Set.of("java.util.Arrays", "java.util.ArrayList", "java.util.List", "java.util.Iterator");
    /** What the class uses of rule 4's library: less than it may. */
    private static final Set<String> LIBRARY = Set.of("Math.max", "Math.min", "Math.abs", "Arrays.fill", "System.arraycopy");
    private static final Set<String> EXCEPTIONS = Set.of("IllegalStateException", "IllegalArgumentException", "IndexOutOfBoundsException",
            "ArithmeticException", "UnsupportedOperationException", "NoSuchElementException", "RuntimeException");
    /** Above what the machine throws by itself, or such a class: never to be caught. */
    private static final Set<String> MACHINES = Set.of("IndexOutOfBoundsException", "ArithmeticException", "RuntimeException");
    private static final Set<String> NUMBERS = Set.of("int", "long", "boolean", "int[]", "long[]", "boolean[]");
    private static final int MOST_PARAMETERS = 7;
    private static final int MOST_LINES = 60;
    private static final int DEEPEST = 8;
    private static final int MOST_CLASSES = 12;
    private static final int MOST_FIELDS = 20;

    private final Trees trees;
    private final CompilationUnitTree unit;
    private final Set<String> classes = new TreeSet<>();
    /** By each method of the class: those of its own that it calls. */
    private final Map<String, Set<String>> calls = new TreeMap<>();

    private RulesTest(Trees trees, CompilationUnitTree unit) {
        this.trees = trees;
        this.unit = unit;
    }

    public static void main(String[] args) throws Exception {
        JavaCompiler compiler = ToolProvider.getSystemJavaCompiler();
        try (StandardJavaFileManager files = compiler.getStandardFileManager(null, null, null)) {
            JavacTask task = (JavacTask) compiler.getTask(null, files, null, List.of("-proc:none"), null,
                    files.getJavaFileObjects(Path.of("src/main/java/BlockPicture.java")));
            CompilationUnitTree unit = task.parse().iterator().next();
            task.analyze();
            RulesTest rules = new RulesTest(Trees.instance(task), unit);
            rules.lookThrough();
        }
        CHECKS.finish();
    }

    private void lookThrough() {
        CHECKS.isTrue("no package line", unit.getPackage() == null);
        CHECKS.same("classes beside each other", unit.getTypeDecls().size(), 1);
        new TreePathScanner<Void, Void>() {
            @Override
            public Void visitClass(ClassTree node, Void v) {
                classes.add(node.getSimpleName().toString());
                return super.visitClass(node, v);
            }
        }.scan(unit, null);
        scan(unit, null);
        CHECKS.isTrue("rule 11: some twelve classes, not " + classes.size(), classes.size() <= MOST_CLASSES);
        CHECKS.isTrue("there are methods", calls.size() > 50);
        for (String method : calls.keySet()) {
            int depth = depth(method, new TreeSet<>());
            CHECKS.isTrue("rules 8, 11: " + method + " goes " + depth + " deep", depth <= DEEPEST);
        }
    }

    /** How many calls stand open at most below a method, itself with them; a recursion counts as far too many. */
    private int depth(String method, Set<String> open) {
        if (!open.add(method)) {
            return 1000;
        }
        int deepest = 0;
        for (String called : calls.getOrDefault(method, Set.of())) {
            deepest = Math.max(deepest, depth(called, open));
        }
        open.remove(method);
        return 1 + deepest;
    }

    private static String nameOf(Element method) {
        return method.getEnclosingElement().getSimpleName() + "." + method;
    }

    private Element element() {
        return trees.getElement(getCurrentPath());
    }

    /** The method around a place of the text, or null in a field. */
    private MethodTree around() {
        for (TreePath path = getCurrentPath(); path != null; path = path.getParentPath()) {
            if (path.getLeaf() instanceof MethodTree method) {
                return method;
            }
        }
        return null;
    }

    private void never(String rule, Tree node) {
        CHECKS.isTrue(rule + ": " + node, false);
    }

    @Override
    public Void visitImport(ImportTree node, Void v) {
        CHECKS.isTrue("rule 4: " + node, !node.isStatic() && IMPORTS.contains(node.getQualifiedIdentifier().toString()));
        return super.visitImport(node, v);
    }

    @Override
    public Void visitClass(ClassTree node, Void v) {
        Set<Modifier> modifiers = node.getModifiers().getFlags();
        boolean outer = node.getSimpleName().contentEquals("BlockPicture");
        CHECKS.isTrue("rule 1: " + node.getSimpleName(), outer
                ? modifiers.containsAll(Set.of(Modifier.PUBLIC, Modifier.FINAL))
                : modifiers.contains(Modifier.STATIC) && !modifiers.contains(Modifier.PUBLIC) && !modifiers.contains(Modifier.PROTECTED));
        int fields = 0;
        for (Tree member : node.getMembers()) {
            if (member instanceof VariableTree field && !field.getModifiers().getFlags().contains(Modifier.STATIC)) {
                fields++;
            }
            CHECKS.isTrue("rule 5: no block beside methods in " + node.getSimpleName(), !(member instanceof BlockTree));
        }
        CHECKS.isTrue("rule 11: fields of " + node.getSimpleName() + " are " + fields, fields <= MOST_FIELDS);
        return super.visitClass(node, v);
    }

    @Override
    public Void visitMethod(MethodTree node, Void v) {
        Element method = element();
        if (node.getBody() != null && trees.getSourcePositions().getEndPosition(unit, node) > 0) {
            calls.computeIfAbsent(nameOf(method), name -> new TreeSet<>());
            CHECKS.isTrue("rule 11: parameters of " + node.getName(), node.getParameters().size() <= MOST_PARAMETERS);
            long lines = line(trees.getSourcePositions().getEndPosition(unit, node))
                    - line(trees.getSourcePositions().getStartPosition(unit, node)) + 1;
            CHECKS.isTrue("rule 11: lines of " + node.getName() + " are " + lines, lines <= MOST_LINES);
        }
        return super.visitMethod(node, v);
    }

    private long line(long position) {
        return unit.getLineMap().getLineNumber(position);
    }

    @Override
    public Void visitVariable(VariableTree node, Void v) {
        String type = String.valueOf(node.getType());
        Set<Modifier> modifiers = node.getModifiers().getFlags();
        boolean caught = getCurrentPath().getParentPath().getLeaf() instanceof CatchTree;
        String plain = type.endsWith("[]") ? type.substring(0, type.length() - 2) : type;
        CHECKS.isTrue("rule 3: " + node, caught || NUMBERS.contains(type) || classes.contains(plain));
        if (modifiers.contains(Modifier.STATIC)) {
            boolean written = node.getInitializer() != null && node.getInitializer().getKind() == Tree.Kind.NEW_ARRAY;
            CHECKS.isTrue("rule 5: " + node.getName(), modifiers.contains(Modifier.FINAL) && (type.equals("int") || type.equals("int[]") && written));
        }
        if (element().getKind() == ElementKind.FIELD) {
            CHECKS.isTrue("rule 1: " + node.getName(), modifiers.contains(Modifier.PRIVATE) || node.getName().contentEquals("NONE"));
        }
        return super.visitVariable(node, v);
    }

    @Override
    public Void visitMethodInvocation(MethodInvocationTree node, Void v) {
        Element called = element();
        String owner = called.getEnclosingElement().getSimpleName().toString();
        MethodTree around = around();
        if (classes.contains(owner)) {
            if (around != null) {
                Element from = trees.getElement(trees.getPath(unit, around));
                calls.computeIfAbsent(nameOf(from), name -> new TreeSet<>()).add(nameOf(called));
            }
        } else {
            boolean above = called.getKind() == ElementKind.CONSTRUCTOR && owner.equals("Object");
            CHECKS.isTrue("rule 4: " + node, above || LIBRARY.contains(owner + "." + called.getSimpleName()));
        }
        return super.visitMethodInvocation(node, v);
    }

    @Override
    public Void visitNewClass(NewClassTree node, Void v) {
        String made = node.getIdentifier().toString();
        boolean thrown = getCurrentPath().getParentPath().getLeaf() instanceof ThrowTree;
        CHECKS.isTrue("rules 2, 12: " + node, node.getClassBody() == null && (thrown ? EXCEPTIONS : classes).contains(made));
        CHECKS.isTrue("made in a field: " + node, thrown || around() == null);
        return super.visitNewClass(node, v);
    }

    @Override
    public Void visitThrow(ThrowTree node, Void v) {
        boolean written = false;
        if (node.getExpression() instanceof NewClassTree made) {
            List<? extends ExpressionTree> texts = made.getArguments();
            written = texts.isEmpty() || texts.size() == 1 && texts.get(0) instanceof LiteralTree;
        }
        CHECKS.isTrue("rule 6: " + node, written);
        MethodTree around = around();
        CHECKS.isTrue("rule 6: no throw in a constructor", around != null && around.getReturnType() != null);
        CHECKS.isTrue("rule 6: no throw beside a try", around != null && !around.toString().contains("try {"));
        return super.visitThrow(node, v);
    }

    @Override
    public Void visitTry(TryTree node, Void v) {
        CHECKS.isTrue("rule 6: " + node, node.getFinallyBlock() == null && node.getResources().isEmpty());
        return super.visitTry(node, v);
    }

    @Override
    public Void visitCatch(CatchTree node, Void v) {
        String type = node.getParameter().getType().toString();
        CHECKS.isTrue("rule 6: caught " + type, EXCEPTIONS.contains(type) && !MACHINES.contains(type));
        new TreePathScanner<Void, Void>() {
            @Override
            public Void visitIdentifier(IdentifierTree name, Void w) {
                CHECKS.isTrue("rule 6: a catch leaves the exception alone", !name.getName().equals(node.getParameter().getName()));
                return super.visitIdentifier(name, w);
            }
        }.scan(new TreePath(getCurrentPath(), node.getBlock()), null);
        return super.visitCatch(node, v);
    }

    @Override
    public Void visitLambdaExpression(LambdaExpressionTree node, Void v) {
        never("rule 2", node);
        return super.visitLambdaExpression(node, v);
    }

    @Override
    public Void visitMemberReference(MemberReferenceTree node, Void v) {
        never("rule 2", node);
        return super.visitMemberReference(node, v);
    }

    @Override
    public Void visitSynchronized(SynchronizedTree node, Void v) {
        never("rule 6", node);
        return super.visitSynchronized(node, v);
    }
}
