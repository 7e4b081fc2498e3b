import com.sun.source.tree.AssertTree;
import com.sun.source.tree.BinaryTree;
import com.sun.source.tree.BlockTree;
import com.sun.source.tree.ClassTree;
import com.sun.source.tree.CompilationUnitTree;
import com.sun.source.tree.DoWhileLoopTree;
import com.sun.source.tree.ExpressionTree;
import com.sun.source.tree.ForLoopTree;
import com.sun.source.tree.LambdaExpressionTree;
import com.sun.source.tree.MemberReferenceTree;
import com.sun.source.tree.MemberSelectTree;
import com.sun.source.tree.MethodInvocationTree;
import com.sun.source.tree.MethodTree;
import com.sun.source.tree.NewClassTree;
import com.sun.source.tree.SynchronizedTree;
import com.sun.source.tree.ThrowTree;
import com.sun.source.tree.Tree;
import com.sun.source.tree.TryTree;
import com.sun.source.tree.TypeCastTree;
import com.sun.source.tree.VariableTree;
import com.sun.source.tree.WhileLoopTree;
import com.sun.source.util.JavacTask;
import com.sun.source.util.SourcePositions;
import com.sun.source.util.TreePath;
import com.sun.source.util.TreePathScanner;
import com.sun.source.util.Trees;
import java.io.IOException;
import java.nio.file.Files;
import java.nio.file.Path;
import java.util.Collections;
import java.util.List;
import java.util.Map;
import java.util.Set;
import java.util.TreeMap;
import java.util.TreeSet;
import javax.lang.model.element.Element;
import javax.lang.model.element.Modifier;
import javax.lang.model.type.TypeKind;
import javax.lang.model.type.TypeMirror;
import javax.tools.JavaCompiler;
import javax.tools.StandardJavaFileManager;
import javax.tools.ToolProvider;

/**
 * What of LANGUAGE.md can be seen in the source, by the compiler's own reading of it. It is stricter
 * than the rules where the program does not need what they leave (texts, lists, casts of objects).
 * That no call throws (rule 7) is ModelTest's and the promises' tests', that calls make nothing
 * (rule 12) RoomTest's.
 */
public final class LanguageTest extends TreePathScanner<Void, Void> {
    private static final Checks C = new Checks("LanguageTest");
    private static final Path ROOT = Path.of(System.getProperty("yard.root", "."));
    private static final Set<String> LIBRARY = Set.of("System.arraycopy", "Math.min", "Math.max",
        "Math.abs", "Integer.bitCount", "Integer.compare");
    private static final int MOST_CLASSES = 12, MOST_FIELDS = 20, MOST_PARAMETERS = 7,
        MOST_LINES = 60, MOST_DEEP = 8;

    private final Trees trees;
    private final CompilationUnitTree unit;
    private final Set<String> face = new TreeSet<>();
    /** Whom a method calls, by its class and name. */
    private final Map<String, Set<String>> calls = new TreeMap<>();
    private int classes;

    private LanguageTest(Trees trees, CompilationUnitTree unit) {
        this.trees = trees;
        this.unit = unit;
    }

    public static void main(String[] args) throws IOException {
        Path source = ROOT.resolve("src/main/java/YardNames.java");
        JavaCompiler javac = ToolProvider.getSystemJavaCompiler();
        try (StandardJavaFileManager files = javac.getStandardFileManager(null, null, null)) {
            JavacTask task = (JavacTask) javac.getTask(null, files, null,
                List.of("-proc:none"), null, files.getJavaFileObjects(source));
            CompilationUnitTree unit = task.parse().iterator().next();
            task.analyze();
            LanguageTest test = new LanguageTest(Trees.instance(task), unit);
            test.scan(unit, null);
            test.callsGoFewDeep();
        }
        boolean plain = Files.readString(source).chars().allMatch(c -> c > 0 && c < 128);
        C.due("rule 4, codes are 1 to 127", plain ? 1 : 0, 1);
        C.end();
    }

    private void holds(int rule, String what, Tree at, boolean held) {
        if (!held) {
            long place = trees.getSourcePositions().getStartPosition(unit, at);
            C.due("rule " + rule + ", " + what + ", line " + unit.getLineMap().getLineNumber(place),
                0, 1);
        }
    }

    // ---- rules 1, 2: the face, the classes inside

    @Override
    public Void visitCompilationUnit(CompilationUnitTree tree, Void none) {
        holds(1, "no package", tree, tree.getPackageName() == null);
        holds(4, "nothing is imported", tree, tree.getImports().isEmpty());
        holds(1, "one class in the file", tree, tree.getTypeDecls().size() == 1);
        super.visitCompilationUnit(tree, none);
        holds(11, classes + " classes are few", tree, classes <= MOST_CLASSES);
        return null;
    }

    @Override
    public Void visitClass(ClassTree tree, Void none) {
        classes++;
        Set<Modifier> flags = tree.getModifiers().getFlags();
        Tree around = getCurrentPath().getParentPath().getLeaf();
        if (around.getKind() == Tree.Kind.COMPILATION_UNIT) {
            findFace(tree);
        } else {
            holds(2, "not local, not anonymous", tree, around instanceof ClassTree);
            holds(2, "static", tree, flags.contains(Modifier.STATIC));
            holds(1, "not open", tree, !flags.contains(Modifier.PUBLIC)
                && !flags.contains(Modifier.PROTECTED));
        }
        long fields = tree.getMembers().stream().filter(m -> m instanceof VariableTree v
            && !v.getModifiers().getFlags().contains(Modifier.STATIC)).count();
        holds(11, fields + " fields are few", tree, fields <= MOST_FIELDS);
        return super.visitClass(tree, none);
    }

    private void findFace(ClassTree tree) {
        for (Tree member : tree.getMembers()) {
            if (member instanceof MethodTree m
                    && m.getModifiers().getFlags().contains(Modifier.PUBLIC)) {
                face.add(m.getName().toString());
            }
        }
    }

    @Override
    public Void visitLambdaExpression(LambdaExpressionTree tree, Void none) {
        holds(2, "no lambda", tree, false);
        return null;
    }

    @Override
    public Void visitMemberReference(MemberReferenceTree tree, Void none) {
        holds(2, "no method reference", tree, false);
        return null;
    }

    // ---- rules 3, 5: types, static fields

    @Override
    public Void visitVariable(VariableTree tree, Void none) {
        TypeMirror type = trees.getTypeMirror(getCurrentPath());
        holds(3, type + " is a type of the rules", tree, isOfRules(type));
        boolean isField = getCurrentPath().getParentPath().getLeaf() instanceof ClassTree;
        Set<Modifier> flags = tree.getModifiers().getFlags();
        if (isField && flags.contains(Modifier.STATIC)) {
            holds(5, "final", tree, flags.contains(Modifier.FINAL));
            holds(5, type + " is a number", tree,
                type.getKind() == TypeKind.INT || type.getKind() == TypeKind.LONG);
        } else if (isField) {
            // Only the class's own constants are open (rule 1).
            holds(1, "private or of a class inside", tree, flags.contains(Modifier.PRIVATE)
                || getCurrentPath().getParentPath().getParentPath().getLeaf() instanceof ClassTree);
        }
        return super.visitVariable(tree, none);
    }

    private static boolean isOfRules(TypeMirror type) {
        switch (type.getKind()) {
            case INT: case LONG: case BOOLEAN: case VOID: return true;
            case ARRAY: return type.toString().matches("(int|long|YardNames\\.\\w+)\\[\\]");
            default: return type.toString().startsWith("YardNames.");
        }
    }

    @Override
    public Void visitBlock(BlockTree tree, Void none) {
        boolean ofClass = getCurrentPath().getParentPath().getLeaf() instanceof ClassTree;
        holds(5, "no initialiser block", tree, !ofClass);
        return super.visitBlock(tree, none);
    }

    // ---- rules 4, 8, 11, 13: what is called

    @Override
    public Void visitMethodInvocation(MethodInvocationTree tree, Void none) {
        Element called = trees.getElement(getCurrentPath());
        String owner = called.getEnclosingElement().getSimpleName().toString();
        String name = owner + "." + called.getSimpleName();
        if (isOwn(called)) {
            calls.computeIfAbsent(caller(), n -> new TreeSet<>()).add(name);
        } else {
            // Each constructor calls Object's.
            holds(4, name + " is listed", tree, LIBRARY.contains(name) || name.equals("Object.<init>"));
        }
        return super.visitMethodInvocation(tree, none);
    }

    @Override
    public Void visitMemberSelect(MemberSelectTree tree, Void none) {
        Element chosen = trees.getElement(getCurrentPath());
        if (chosen != null && chosen.getKind().isField() && !isOwn(chosen)) {
            String owner = chosen.getEnclosingElement().getSimpleName().toString();
            // The document's own face has this one.
            holds(4, owner + "." + chosen + " is listed", tree,
                tree.toString().equals("Long.MIN_VALUE"));
        }
        return super.visitMemberSelect(tree, none);
    }

    @Override
    public Void visitNewClass(NewClassTree tree, Void none) {
        holds(2, "no anonymous class", tree, tree.getClassBody() == null);
        holds(4, tree + " is its own", tree, isOwn(trees.getElement(getCurrentPath())));
        return super.visitNewClass(tree, none);
    }

    private static boolean isOwn(Element e) {
        Element at = e;
        while (at.getEnclosingElement() != null && !at.getSimpleName().contentEquals("YardNames")) {
            at = at.getEnclosingElement();
        }
        return at.getSimpleName().contentEquals("YardNames");
    }

    private String caller() {
        String method = "<init>";
        for (TreePath at = getCurrentPath(); at != null; at = at.getParentPath()) {
            if (at.getLeaf() instanceof MethodTree m) {
                method = m.getName().toString();
            } else if (at.getLeaf() instanceof ClassTree c) {
                return c.getSimpleName() + "." + method;
            }
        }
        throw new IllegalStateException("a call outside any class");
    }

    private void callsGoFewDeep() {
        C.due("rule 8, all calls were found", calls.size() > 40 ? 1 : 0, 1);
        for (String method : calls.keySet()) {
            int deep = depthFrom(method, 0);
            C.due("rules 8, 11: calls from " + method + " go " + deep + " deep",
                deep <= MOST_DEEP ? 1 : 0, 1);
        }
    }

    /** A method that comes back to itself goes deeper than any that does not. */
    private int depthFrom(String method, int already) {
        int deepest = already;
        if (already <= MOST_DEEP) {
            for (String next : calls.getOrDefault(method, Collections.emptySet())) {
                deepest = Math.max(deepest, depthFrom(next, already + 1));
            }
        }
        return deepest;
    }

    @Override
    public Void visitMethod(MethodTree tree, Void none) {
        String name = tree.getName().toString();
        boolean isOpen = tree.getModifiers().getFlags().contains(Modifier.PUBLIC);
        holds(1, name + " is a name of its own", tree,
            isOpen || name.equals("<init>") || !face.contains(name));
        holds(11, name + " takes few", tree, tree.getParameters().size() <= MOST_PARAMETERS);
        SourcePositions places = trees.getSourcePositions();
        long end = places.getEndPosition(unit, tree);
        // A constructor that is not written has no end.
        if (end >= 0) {
            long lines = unit.getLineMap().getLineNumber(end)
                - unit.getLineMap().getLineNumber(places.getStartPosition(unit, tree));
            holds(11, name + " is short", tree, lines < MOST_LINES);
        }
        return super.visitMethod(tree, none);
    }

    // ---- rules 6, 10: words and signs that are ruled out

    @Override
    public Void visitThrow(ThrowTree tree, Void none) {
        holds(6, "no throw", tree, false);
        return null;
    }

    @Override
    public Void visitTry(TryTree tree, Void none) {
        holds(6, "no try", tree, false);
        return null;
    }

    @Override
    public Void visitSynchronized(SynchronizedTree tree, Void none) {
        holds(6, "no synchronized", tree, false);
        return null;
    }

    @Override
    public Void visitAssert(AssertTree tree, Void none) {
        holds(6, "no assert", tree, false);
        return null;
    }

    @Override
    public Void visitTypeCast(TypeCastTree tree, Void none) {
        TypeMirror type = trees.getTypeMirror(getCurrentPath());
        holds(6, "only numbers are cast", tree, type.getKind().isPrimitive());
        return super.visitTypeCast(tree, none);
    }

    @Override
    public Void visitBinary(BinaryTree tree, Void none) {
        holds(10, "no text in " + tree, tree, isNumber(tree.getLeftOperand(), tree)
            && isNumber(tree.getRightOperand(), tree));
        return super.visitBinary(tree, none);
    }

    private boolean isNumber(ExpressionTree part, BinaryTree whole) {
        TreePath path = TreePath.getPath(new TreePath(getCurrentPath(), whole), part);
        return trees.getTypeMirror(path).getKind().isPrimitive();
    }

    // ---- rule 9: loops have an end

    @Override
    public Void visitWhileLoop(WhileLoopTree tree, Void none) {
        holds(9, "a while with a bound", tree, isBound(tree.getCondition()));
        return super.visitWhileLoop(tree, none);
    }

    @Override
    public Void visitDoWhileLoop(DoWhileLoopTree tree, Void none) {
        holds(9, "a do with a bound", tree, isBound(tree.getCondition()));
        return super.visitDoWhileLoop(tree, none);
    }

    @Override
    public Void visitForLoop(ForLoopTree tree, Void none) {
        holds(9, "a for with a bound", tree, isBound(tree.getCondition()));
        return super.visitForLoop(tree, none);
    }

    /** A counter against a bound, perhaps beside others. */
    private static boolean isBound(ExpressionTree condition) {
        return condition != null && condition.toString().matches(".*\\w+ (<|<=|>|>=) .*");
    }
}
