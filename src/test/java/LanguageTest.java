import com.sun.source.tree.AssertTree;
import com.sun.source.tree.BinaryTree;
import com.sun.source.tree.ClassTree;
import com.sun.source.tree.CompilationUnitTree;
import com.sun.source.tree.CompoundAssignmentTree;
import com.sun.source.tree.DoWhileLoopTree;
import com.sun.source.tree.ForLoopTree;
import com.sun.source.tree.LambdaExpressionTree;
import com.sun.source.tree.LiteralTree;
import com.sun.source.tree.MemberReferenceTree;
import com.sun.source.tree.MethodInvocationTree;
import com.sun.source.tree.MethodTree;
import com.sun.source.tree.NewArrayTree;
import com.sun.source.tree.NewClassTree;
import com.sun.source.tree.StatementTree;
import com.sun.source.tree.SynchronizedTree;
import com.sun.source.tree.ThrowTree;
import com.sun.source.tree.Tree;
import com.sun.source.tree.TryTree;
import com.sun.source.tree.TypeCastTree;
import com.sun.source.tree.VariableTree;
import com.sun.source.tree.WhileLoopTree;
import com.sun.source.util.JavacTask;
import com.sun.source.util.TreePath;
import com.sun.source.util.TreePathScanner;
import com.sun.source.util.Trees;
import java.io.IOException;
import java.nio.file.Path;
import java.util.HashMap;
import java.util.HashSet;
import java.util.List;
import java.util.Map;
import java.util.Set;
import java.util.TreeSet;
import javax.lang.model.element.Element;
import javax.lang.model.element.ElementKind;
import javax.lang.model.element.Modifier;
import javax.tools.JavaCompiler;
import javax.tools.StandardJavaFileManager;
import javax.tools.ToolProvider;

/** The rules of LANGUAGE.md that the compiler's tree of the class can tell, each named by its number. */
public final class LanguageTest {
    private static final Path SOURCE = Path.of("src/main/java/DebtClearing.java");
    private static final Set<String> LIBRARY = Set.of("java.lang.String.length", "java.lang.String.charAt",
            "java.lang.StringBuilder.append", "java.lang.StringBuilder.length", "java.lang.StringBuilder.setLength",
            "java.lang.StringBuilder.charAt", "java.lang.Math.min", "java.lang.Math.max", "java.lang.Math.abs",
            "java.lang.Integer.compare", "java.lang.Integer.bitCount", "java.lang.System.arraycopy",
            "java.util.Arrays.fill");
    private static final Set<String> FIELD_TYPES = Set.of("int", "boolean", "int[]", "boolean[]", "char[]", "String",
            "StringBuilder", "Ledger", "Ledger[]", "Clearing", "Payout", "Network", "History", "CommandText",
            "Command[]");
    private static final Set<String> STATIC_TYPES = Set.of("int", "Command[]");
    private static final Set<String> EXCEPTIONS = Set.of("IllegalStateException", "IllegalArgumentException",
            "IndexOutOfBoundsException", "ArithmeticException", "UnsupportedOperationException",
            "NoSuchElementException", "RuntimeException");

    public static void main(String[] args) throws IOException {
        JavaCompiler compiler = ToolProvider.getSystemJavaCompiler();
        try (StandardJavaFileManager files = compiler.getStandardFileManager(null, null, null)) {
            JavacTask task = (JavacTask) compiler.getTask(null, files, null, List.of("-proc:none"), null,
                    files.getJavaFileObjects(SOURCE));
            CompilationUnitTree unit = task.parse().iterator().next();
            task.analyze();
            Rules rules = new Rules(Trees.instance(task), unit);
            rules.scan(unit, null);
            rules.checkClasses();
            rules.checkCalls();
        }
        Check.finish();
    }

    private static final class Rules extends TreePathScanner<Void, Void> {
        private final Trees trees;
        private final CompilationUnitTree unit;
        private final Map<Element, Set<Element>> calls = new HashMap<>();
        private int classes = 0;

        Rules(Trees trees, CompilationUnitTree unit) {
            this.trees = trees;
            this.unit = unit;
        }

        private void rule(int number, String what, boolean holds) {
            Check.same("rule " + number + ": " + what, holds, true);
        }

        private long lines(Tree tree) {
            long start = trees.getSourcePositions().getStartPosition(unit, tree);
            long end = trees.getSourcePositions().getEndPosition(unit, tree);
            return unit.getLineMap().getLineNumber(end) - unit.getLineMap().getLineNumber(start) + 1;
        }

        /** Returns whether a tree of the type stands round the present one, inside its method. */
        private boolean isInside(Class<?>... types) {
            for (TreePath path = getCurrentPath().getParentPath(); path != null; path = path.getParentPath()) {
                for (Class<?> type : types) {
                    if (type.isInstance(path.getLeaf())) {
                        return true;
                    }
                }
                if (path.getLeaf() instanceof MethodTree) {
                    return false;
                }
            }
            return false;
        }

        private MethodTree method() {
            for (TreePath path = getCurrentPath(); path != null; path = path.getParentPath()) {
                if (path.getLeaf() instanceof MethodTree method) {
                    return method;
                }
            }
            return null;
        }

        private boolean isInConstructor() {
            MethodTree method = method();
            return method != null && method.getReturnType() == null;
        }

        @Override
        public Void visitClass(ClassTree tree, Void nothing) {
            classes++;
            String name = tree.getSimpleName().toString();
            rule(2, name + " has a name and stands in a class", !name.isEmpty() && method() == null);
            long fields = 0;
            for (Tree member : tree.getMembers()) {
                rule(5, "no static block in " + name, member.getKind() != Tree.Kind.BLOCK);
                if (member instanceof VariableTree variable
                        && !variable.getModifiers().getFlags().contains(Modifier.STATIC)) {
                    fields++;
                }
                if (member instanceof MethodTree method) {
                    String text = method.getName().toString();
                    rule(6, "no " + text, !Set.of("equals", "hashCode", "toString").contains(text));
                }
            }
            rule(11, "fields of " + name, fields <= 20);
            return super.visitClass(tree, nothing);
        }

        @Override
        public Void visitVariable(VariableTree tree, Void nothing) {
            Element element = trees.getElement(getCurrentPath());
            String type = String.valueOf(tree.getType());
            if (element.getKind() == ElementKind.FIELD) {
                boolean isStatic = element.getModifiers().contains(Modifier.STATIC);
                rule(3, "type " + type + " of " + tree.getName(), FIELD_TYPES.contains(type));
                rule(5, tree.getName() + " is final if it is static",
                        !isStatic || element.getModifiers().contains(Modifier.FINAL) && STATIC_TYPES.contains(type));
                rule(1, tree.getName() + " is private", element.getModifiers().contains(Modifier.PRIVATE));
            }
            return super.visitVariable(tree, nothing);
        }

        @Override
        public Void visitMethod(MethodTree tree, Void nothing) {
            rule(11, "lines of " + tree.getName(), lines(tree) <= 60);
            rule(11, "parameters of " + tree.getName(), tree.getParameters().size() <= 7);
            calls.put(trees.getElement(getCurrentPath()), new HashSet<>());
            return super.visitMethod(tree, nothing);
        }

        @Override
        public Void visitMethodInvocation(MethodInvocationTree tree, Void nothing) {
            Element called = trees.getElement(new TreePath(getCurrentPath(), tree.getMethodSelect()));
            String owner = called.getEnclosingElement().toString().replace("AbstractStringBuilder", "StringBuilder");
            String name = owner + "." + called.getSimpleName();
            boolean isOwn = name.startsWith("DebtClearing");
            boolean isSuper = called.getKind() == ElementKind.CONSTRUCTOR;
            MethodTree caller = method();
            if (name.equals("DebtClearing.Command.values")) {
                rule(5, "values() is kept once", caller == null);
            } else if (isOwn && caller != null) {
                calls.get(trees.getElement(trees.getPath(unit, caller))).add(called);
                rule(12, caller.getName() + " calls no method of its own", !isInConstructor());
            } else {
                rule(4, name, isSuper || LIBRARY.contains(name));
            }
            return super.visitMethodInvocation(tree, nothing);
        }

        @Override
        public Void visitThrow(ThrowTree tree, Void nothing) {
            boolean isNew = tree.getExpression() instanceof NewClassTree;
            rule(6, tree + " throws a new exception", isNew);
            if (isNew) {
                NewClassTree made = (NewClassTree) tree.getExpression();
                rule(6, tree + " is listed", EXCEPTIONS.contains(made.getIdentifier().toString()));
                rule(6, tree + " has a written text", made.getArguments().size() == 1
                        && made.getArguments().get(0) instanceof LiteralTree);
            }
            rule(6, tree + " stands in no constructor", !isInConstructor());
            return super.visitThrow(tree, nothing);
        }

        @Override
        public Void visitNewClass(NewClassTree tree, Void nothing) {
            boolean isRoom = isInConstructor() || method() == null;
            rule(12, tree + " is made by a constructor or thrown", isRoom || isInside(ThrowTree.class));
            rule(2, tree + " has no body", tree.getClassBody() == null);
            return super.visitNewClass(tree, nothing);
        }

        @Override
        public Void visitNewArray(NewArrayTree tree, Void nothing) {
            rule(12, tree + " is made once", method() == null);
            rule(3, tree + " has one dimension", tree.getDimensions().size() == 1);
            return super.visitNewArray(tree, nothing);
        }

        @Override
        public Void visitForLoop(ForLoopTree tree, Void nothing) {
            rule(9, "a bound in for (" + tree.getCondition(), hasBound(String.valueOf(tree.getCondition())));
            return super.visitForLoop(tree, nothing);
        }

        @Override
        public Void visitWhileLoop(WhileLoopTree tree, Void nothing) {
            rule(9, "a bound in while " + tree.getCondition(), hasBound(tree.getCondition().toString()));
            return super.visitWhileLoop(tree, nothing);
        }

        private static boolean hasBound(String condition) {
            return condition.matches(".*<=? .*") && !condition.contains("||");
        }

        @Override
        public Void visitDoWhileLoop(DoWhileLoopTree tree, Void nothing) {
            rule(9, "do while has a bound", hasBound(tree.getCondition().toString()));
            return super.visitDoWhileLoop(tree, nothing);
        }

        @Override
        public Void visitBinary(BinaryTree tree, Void nothing) {
            boolean isText = tree.getKind() == Tree.Kind.PLUS && trees.getTypeMirror(getCurrentPath()).toString()
                    .equals("java.lang.String");
            rule(10, tree + " joins no texts", !isText);
            return super.visitBinary(tree, nothing);
        }

        @Override
        public Void visitCompoundAssignment(CompoundAssignmentTree tree, Void nothing) {
            rule(10, tree + " is on numbers", trees.getTypeMirror(getCurrentPath()).toString().equals("int"));
            return super.visitCompoundAssignment(tree, nothing);
        }

        @Override
        public Void visitTypeCast(TypeCastTree tree, Void nothing) {
            rule(6, tree + " is a cast of a number", tree.getType().getKind() == Tree.Kind.PRIMITIVE_TYPE);
            return super.visitTypeCast(tree, nothing);
        }

        @Override
        public Void visitLiteral(LiteralTree tree, Void nothing) {
            String text = String.valueOf(tree.getValue());
            rule(4, "signs of '" + text + "'", text.chars().allMatch(sign -> sign >= 1 && sign < 128));
            return super.visitLiteral(tree, nothing);
        }

        @Override
        public Void visitTry(TryTree tree, Void nothing) {
            return never(6, tree);
        }

        @Override
        public Void visitSynchronized(SynchronizedTree tree, Void nothing) {
            return never(6, tree);
        }

        @Override
        public Void visitAssert(AssertTree tree, Void nothing) {
            return never(6, tree);
        }

        @Override
        public Void visitLambdaExpression(LambdaExpressionTree tree, Void nothing) {
            return never(2, tree);
        }

        @Override
        public Void visitMemberReference(MemberReferenceTree tree, Void nothing) {
            return never(2, tree);
        }

        private Void never(int number, Tree tree) {
            rule(number, "no " + (tree instanceof StatementTree ? "such statement as " : "") + tree, false);
            return null;
        }

        void checkClasses() {
            rule(11, classes + " classes", classes <= 12);
        }

        void checkCalls() {
            for (Element method : calls.keySet()) {
                int depth = depth(method, new HashSet<>());
                rule(8, method + " does not come back to itself", depth < 1000);
                rule(11, method + " goes " + depth + " deep", depth <= 8);
            }
            Set<String> unused = new TreeSet<>();
            for (Element method : calls.keySet()) {
                boolean isCalled = calls.values().stream().anyMatch(called -> called.contains(method));
                if (!isCalled && !method.getModifiers().contains(Modifier.PUBLIC)
                        && method.getKind() != ElementKind.CONSTRUCTOR) {
                    unused.add(method.toString());
                }
            }
            Check.same("methods that nothing calls", unused, Set.of());
        }

        private int depth(Element method, Set<Element> open) {
            if (!open.add(method)) {
                return 1000;
            }
            int deepest = 0;
            for (Element called : calls.getOrDefault(method, Set.of())) {
                deepest = Math.max(deepest, depth(called, open));
            }
            open.remove(method);
            return deepest + 1;
        }
    }
}
