import com.sun.source.tree.AssignmentTree;
import com.sun.source.tree.BinaryTree;
import com.sun.source.tree.ClassTree;
import com.sun.source.tree.CompilationUnitTree;
import com.sun.source.tree.CompoundAssignmentTree;
import com.sun.source.tree.ExpressionTree;
import com.sun.source.tree.ForLoopTree;
import com.sun.source.tree.MethodInvocationTree;
import com.sun.source.tree.MethodTree;
import com.sun.source.tree.NewClassTree;
import com.sun.source.tree.Tree;
import com.sun.source.tree.TypeCastTree;
import com.sun.source.tree.VariableTree;
import com.sun.source.util.JavacTask;
import com.sun.source.util.TreePath;
import com.sun.source.util.TreePathScanner;
import com.sun.source.util.Trees;
import java.io.IOException;
import java.nio.file.Path;
import java.util.EnumSet;
import java.util.HashSet;
import java.util.List;
import java.util.Map;
import java.util.Set;
import java.util.TreeMap;
import java.util.TreeSet;
import javax.lang.model.element.Element;
import javax.lang.model.element.ElementKind;
import javax.lang.model.element.Modifier;
import javax.lang.model.type.TypeKind;
import javax.lang.model.type.TypeMirror;
import javax.tools.JavaCompiler;
import javax.tools.StandardJavaFileManager;
import javax.tools.ToolProvider;

/**
 * The rules of LANGUAGE.md that the text of the class tells. The class needs less than they leave
 * (no library, no exception, no loop but for), and less is what is looked for here.
 */
public final class LanguageTest {
    private static final Path FILE = Path.of("src", "main", "java", "GaugeBench.java");
    private static final int MOST_PARAMETERS = 7, MOST_LINES = 60, MOST_DEEP = 8, MOST_CLASSES = 12,
        MOST_FIELDS = 20;

    private static final Set<Tree.Kind> RULED_OUT = EnumSet.of(Tree.Kind.PACKAGE, Tree.Kind.IMPORT,
        Tree.Kind.LAMBDA_EXPRESSION, Tree.Kind.MEMBER_REFERENCE, Tree.Kind.TRY, Tree.Kind.THROW,
        Tree.Kind.SYNCHRONIZED, Tree.Kind.ASSERT, Tree.Kind.ANNOTATION, Tree.Kind.WHILE_LOOP,
        Tree.Kind.DO_WHILE_LOOP, Tree.Kind.INTERFACE, Tree.Kind.ENUM, Tree.Kind.RECORD);

    private static final Check CHECK = new Check("language");

    public static void main(String[] args) throws IOException {
        JavaCompiler compiler = ToolProvider.getSystemJavaCompiler();
        Text text;
        try (StandardJavaFileManager files = compiler.getStandardFileManager(null, null, null)) {
            JavacTask task = (JavacTask) compiler.getTask(null, files, null, List.of("-proc:none"), null,
                files.getJavaFileObjects(FILE));
            CompilationUnitTree unit = task.parse().iterator().next();
            task.analyze();
            text = new Text(Trees.instance(task), unit);
            text.scan(unit, null);
            CHECK.same("rule 1: classes in the file itself", 1, unit.getTypeDecls().size());
        }
        CHECK.same("rule 11: not too many classes", true, text.fields.size() <= MOST_CLASSES);
        text.fields.forEach((type, fields) ->
            CHECK.same("rule 11: " + type + " has not too many fields", true, fields <= MOST_FIELDS));
        calls(text.calls);
        CHECK.end();
    }

    /** Rules 8 and 11: which methods come to call themselves, and how deep all others go. */
    private static void calls(Map<String, Set<String>> calls) {
        Set<String> again = new TreeSet<>();
        for (String method : calls.keySet()) {
            Set<String> reached = new HashSet<>();
            reach(calls, method, reached);
            if (reached.contains(method)) {
                again.add(method);
            }
        }
        CHECK.same("rule 8: methods that call one another",
            "[Runner.doCall, Runner.doFinally, Runner.doLoop, Runner.doPart, Runner.doStep, Runner.doTry]",
            again.toString());
        for (String method : calls.keySet()) {
            CHECK.same("rule 11: " + method + " goes not too deep", true,
                depth(calls, again, method) <= MOST_DEEP);
        }
    }

    private static void reach(Map<String, Set<String>> calls, String from, Set<String> reached) {
        for (String called : calls.getOrDefault(from, Set.of())) {
            if (reached.add(called)) {
                reach(calls, called, reached);
            }
        }
    }

    /** The methods that call one another count as two, as most of their ways outside go by two. */
    private static int depth(Map<String, Set<String>> calls, Set<String> again, String method) {
        boolean isAgain = again.contains(method);
        Set<String> called = new TreeSet<>();
        for (String caller : isAgain ? again : Set.of(method)) {
            called.addAll(calls.getOrDefault(caller, Set.of()));
        }
        int deepest = 0;
        for (String one : called) {
            if (!isAgain || !again.contains(one)) {
                deepest = Math.max(deepest, depth(calls, again, one));
            }
        }
        return deepest + (isAgain ? 2 : 1);
    }

    /** Looks at every part of the class, and keeps who calls whom. */
    private static final class Text extends TreePathScanner<Void, Void> {
        final Map<String, Integer> fields = new TreeMap<>();
        final Map<String, Set<String>> calls = new TreeMap<>();
        private final Trees trees;
        private final CompilationUnitTree unit;
        private String method = "";

        Text(Trees trees, CompilationUnitTree unit) {
            this.trees = trees;
            this.unit = unit;
        }

        private long line(long position) {
            return unit.getLineMap().getLineNumber(position);
        }

        private String at(Tree tree) {
            return " in line " + line(trees.getSourcePositions().getStartPosition(unit, tree));
        }

        private TypeMirror type(Tree tree) {
            return trees.getTypeMirror(new TreePath(getCurrentPath(), tree));
        }

        private boolean isOwn(Element element) {
            return element != null && element.toString().startsWith("GaugeBench");
        }

        @Override
        public Void scan(Tree tree, Void nothing) {
            if (tree != null) {
                CHECK.same("rules 2 to 6, 9: " + tree.getKind() + at(tree), false, RULED_OUT.contains(tree.getKind()));
            }
            return super.scan(tree, nothing);
        }

        @Override
        public Void visitClass(ClassTree tree, Void nothing) {
            Set<Modifier> modifiers = tree.getModifiers().getFlags();
            boolean isInside = getCurrentPath().getParentPath().getLeaf() instanceof ClassTree;
            CHECK.same("rules 1, 2: the class" + at(tree), isInside
                ? EnumSet.of(Modifier.PRIVATE, Modifier.STATIC, Modifier.FINAL)
                : EnumSet.of(Modifier.PUBLIC, Modifier.FINAL), modifiers);
            fields.put(tree.getSimpleName().toString(), 0);
            return super.visitClass(tree, nothing);
        }

        @Override
        public Void visitVariable(VariableTree tree, Void nothing) {
            Element element = trees.getElement(getCurrentPath());
            TypeMirror type = element.asType();
            String name = type.toString().replace("[]", "");
            CHECK.same("rule 3: the type " + type + at(tree), true,
                type(tree.getType()).getKind().isPrimitive() || name.startsWith("GaugeBench")
                || Set.of("int", "double", "boolean").contains(name) && type.toString().endsWith("[]"));
            if (element.getKind() == ElementKind.FIELD) {
                lookAtField(tree, type.toString());
            }
            return super.visitVariable(tree, nothing);
        }

        private void lookAtField(VariableTree tree, String type) {
            Set<Modifier> modifiers = tree.getModifiers().getFlags();
            if (!modifiers.contains(Modifier.STATIC)) {
                ClassTree owner = (ClassTree) getCurrentPath().getParentPath().getLeaf();
                fields.merge(owner.getSimpleName().toString(), 1, Integer::sum);
                return;
            }
            CHECK.same("rule 5: final" + at(tree), true, modifiers.contains(Modifier.FINAL));
            CHECK.same("rule 5: " + type + at(tree), true, Set.of("int", "long", "int[]").contains(type));
            CHECK.same("rule 5: written out" + at(tree), type.endsWith("[]"),
                tree.getInitializer().getKind() == Tree.Kind.NEW_ARRAY);
        }

        /** An array that a static field holds is never changed. */
        @Override
        public Void visitAssignment(AssignmentTree tree, Void nothing) {
            CHECK.same("rule 5: changes a constant" + at(tree), false,
                tree.getVariable().toString().matches("([A-Z]\\w*\\.)?[A-Z_]+\\b.*"));
            return super.visitAssignment(tree, nothing);
        }

        @Override
        public Void visitCompoundAssignment(CompoundAssignmentTree tree, Void nothing) {
            CHECK.same("rule 3: no such sum" + at(tree), true, type(tree).getKind() != TypeKind.DOUBLE);
            return super.visitCompoundAssignment(tree, nothing);
        }

        @Override
        public Void visitBinary(BinaryTree tree, Void nothing) {
            if (tree.getKind() == Tree.Kind.REMAINDER) {
                CHECK.same("rule 3: a remainder of longs" + at(tree), TypeKind.LONG,
                    trees.getTypeMirror(getCurrentPath()).getKind());
            }
            return super.visitBinary(tree, nothing);
        }

        @Override
        public Void visitTypeCast(TypeCastTree tree, Void nothing) {
            CHECK.same("rule 6: a cast of numbers" + at(tree), true, type(tree.getType()).getKind().isPrimitive());
            return super.visitTypeCast(tree, nothing);
        }

        /** Each loop counts a variable of its own up or down to a bound. */
        @Override
        public Void visitForLoop(ForLoopTree tree, Void nothing) {
            CHECK.same("rule 9: begins with a counter" + at(tree), true,
                tree.getInitializer().size() == 1 && tree.getInitializer().get(0) instanceof VariableTree);
            String counter = ((VariableTree) tree.getInitializer().get(0)).getName().toString();
            CHECK.same("rule 9: a bound" + at(tree), true,
                tree.getCondition().toString().matches(".*\\b" + counter + " (<|<=|>=) .*"));
            CHECK.same("rule 9: counts" + at(tree), true,
                tree.getUpdate().toString().matches(counter + "(\\+\\+|--);?"));
            CHECK.same("rule 9: counts nowhere else" + at(tree), false,
                tree.getStatement().toString().matches("(?s).*\\b" + counter + "( [-+*/]?= |\\+\\+|--).*"));
            return super.visitForLoop(tree, nothing);
        }

        @Override
        public Void visitMethod(MethodTree tree, Void nothing) {
            long begin = trees.getSourcePositions().getStartPosition(unit, tree);
            long end = trees.getSourcePositions().getEndPosition(unit, tree);
            Element element = trees.getElement(getCurrentPath());
            method = name(element);
            calls.putIfAbsent(method, new TreeSet<>());
            CHECK.same("rule 11: parameters of " + method, true, tree.getParameters().size() <= MOST_PARAMETERS);
            CHECK.same("rule 11: lines of " + method, true, line(end) - line(begin) < MOST_LINES);
            return super.visitMethod(tree, nothing);
        }

        private static String name(Element method) {
            return method.getEnclosingElement().getSimpleName() + "." + method.getSimpleName();
        }

        @Override
        public Void visitMethodInvocation(MethodInvocationTree tree, Void nothing) {
            called(tree);
            return super.visitMethodInvocation(tree, nothing);
        }

        @Override
        public Void visitNewClass(NewClassTree tree, Void nothing) {
            called(tree);
            return super.visitNewClass(tree, nothing);
        }

        private void called(ExpressionTree tree) {
            Element called = trees.getElement(getCurrentPath());
            boolean isAboveAll = called.getEnclosingElement().toString().equals("java.lang.Object");
            CHECK.same("rule 4: a call of " + called + at(tree), true,
                isAboveAll && tree.toString().equals("super()") || isOwn(called.getEnclosingElement()));
            if (!isAboveAll) {
                calls.get(method).add(name(called));
            }
        }
    }
}
