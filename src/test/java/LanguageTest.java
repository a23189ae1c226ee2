import com.sun.source.tree.AssertTree;
import com.sun.source.tree.AssignmentTree;
import com.sun.source.tree.BlockTree;
import com.sun.source.tree.ClassTree;
import com.sun.source.tree.CompilationUnitTree;
import com.sun.source.tree.CompoundAssignmentTree;
import com.sun.source.tree.DoWhileLoopTree;
import com.sun.source.tree.EnhancedForLoopTree;
import com.sun.source.tree.ExpressionStatementTree;
import com.sun.source.tree.ForLoopTree;
import com.sun.source.tree.IdentifierTree;
import com.sun.source.tree.InstanceOfTree;
import com.sun.source.tree.LambdaExpressionTree;
import com.sun.source.tree.LineMap;
import com.sun.source.tree.LiteralTree;
import com.sun.source.tree.MemberReferenceTree;
import com.sun.source.tree.MethodInvocationTree;
import com.sun.source.tree.MethodTree;
import com.sun.source.tree.NewArrayTree;
import com.sun.source.tree.NewClassTree;
import com.sun.source.tree.SynchronizedTree;
import com.sun.source.tree.ThrowTree;
import com.sun.source.tree.Tree;
import com.sun.source.tree.TryTree;
import com.sun.source.tree.TypeCastTree;
import com.sun.source.tree.UnaryTree;
import com.sun.source.tree.VariableTree;
import com.sun.source.tree.WhileLoopTree;
import com.sun.source.util.JavacTask;
import com.sun.source.util.SourcePositions;
import com.sun.source.util.TreePathScanner;
import com.sun.source.util.TreeScanner;
import com.sun.source.util.Trees;
import java.io.IOException;
import java.util.ArrayDeque;
import java.util.Deque;
import java.util.LinkedHashMap;
import java.util.LinkedHashSet;
import java.util.List;
import java.util.Map;
import java.util.Set;
import javax.lang.model.element.Element;
import javax.lang.model.element.ElementKind;
import javax.lang.model.element.Modifier;
import javax.lang.model.element.VariableElement;
import javax.lang.model.type.ArrayType;
import javax.lang.model.type.TypeKind;
import javax.lang.model.type.TypeMirror;
import javax.tools.JavaCompiler;
import javax.tools.StandardJavaFileManager;
import javax.tools.ToolProvider;

/**
 * The rules of LANGUAGE.md that can be read off the source. The class uses less than they leave: no library, no text,
 * no loop but for with a counter, and no object made outside a constructor; so the test asks for that little.
 */
public final class LanguageTest {
    private static final int MOST_PARAMETERS = 7;
    private static final int MOST_LINES = 60;
    private static final int DEEPEST = 8;
    private static final int MOST_CLASSES = 12;
    private static final int MOST_FIELDS = 20;

    private static final Due due = new Due();

    public static void main(String[] args) throws IOException {
        JavaCompiler compiler = ToolProvider.getSystemJavaCompiler();
        StandardJavaFileManager files = compiler.getStandardFileManager(null, null, null);
        JavacTask task = (JavacTask) compiler.getTask(null, files, null, List.of("-proc:none"), null,
            files.getJavaFileObjects("src/main/java/FlashTree.java"));
        CompilationUnitTree unit = task.parse().iterator().next();
        task.analyze();
        Reader reader = new Reader(unit, Trees.instance(task));
        reader.scan(unit, null);
        due.holds("without a package line", unit.getPackageName() == null);
        due.holds("rule 4: no library, so no import", unit.getImports().isEmpty());
        due.holds("rule 11: at most twelve classes", reader.classes <= MOST_CLASSES);
        for (Element method : reader.calls.keySet()) {
            callsFrom(method, reader.calls, new ArrayDeque<>());
        }
        due.end();
    }

    private static void callsFrom(Element method, Map<Element, Set<Element>> calls, Deque<Element> open) {
        if (open.contains(method)) {
            due.holds("rule 8: no recursion: " + open + " calls " + method, false);
            return;
        }
        open.addLast(method);
        due.holds("rule 11: at most eight calls deep: " + open, open.size() <= DEEPEST);
        for (Element called : calls.getOrDefault(method, Set.of())) {
            callsFrom(called, calls, open);
        }
        open.removeLast();
    }

    private static final class Reader extends TreePathScanner<Void, Void> {
        private final CompilationUnitTree unit;
        private final Trees trees;
        private final Map<Element, Set<Element>> calls = new LinkedHashMap<>();
        private int classes = 0;
        private Element method = null;

        private Reader(CompilationUnitTree unit, Trees trees) {
            this.unit = unit;
            this.trees = trees;
        }

        @Override
        public Void visitClass(ClassTree tree, Void none) {
            classes++;
            Tree around = getCurrentPath().getParentPath().getLeaf();
            boolean nested = around instanceof ClassTree;
            Set<Modifier> flags = tree.getModifiers().getFlags();
            due.holds("rule 2: no local class and none without name: " + tree.getSimpleName(),
                nested || around instanceof CompilationUnitTree);
            due.holds("rule 2: a class inside is static: " + tree.getSimpleName(), !nested || flags.contains(Modifier.STATIC));
            int fields = 0;
            for (var member : tree.getMembers()) {
                if (member instanceof VariableTree field && !field.getModifiers().getFlags().contains(Modifier.STATIC)) {
                    fields++;
                }
                due.holds("rule 5: no static initialiser block: " + tree.getSimpleName(),
                    !(member instanceof BlockTree block && block.isStatic()));
            }
            due.holds("rule 11: at most twenty fields: " + tree.getSimpleName(), fields <= MOST_FIELDS);
            return super.visitClass(tree, none);
        }

        @Override
        public Void visitMethod(MethodTree tree, Void none) {
            method = trees.getElement(getCurrentPath());
            if (tree.getReturnType() != null) {
                due.holds("rule 3: " + tree.getReturnType() + " " + method, isPlain(typeOf(tree.getReturnType())));
            }
            calls.put(method, new LinkedHashSet<>());
            due.holds("rule 11: at most seven parameters: " + method, tree.getParameters().size() <= MOST_PARAMETERS);
            due.holds("rule 11: at most sixty lines: " + method, lines(tree) <= MOST_LINES);
            return super.visitMethod(tree, none);
        }

        private long lines(MethodTree tree) {
            SourcePositions at = trees.getSourcePositions();
            LineMap map = unit.getLineMap();
            long end = at.getEndPosition(unit, tree);
            // The constructor that javac adds to a class without one has no place in the source.
            return end < 0 ? 0 : map.getLineNumber(end) - map.getLineNumber(at.getStartPosition(unit, tree)) + 1;
        }

        @Override
        public Void visitVariable(VariableTree tree, Void none) {
            Element variable = trees.getElement(getCurrentPath());
            due.holds("rule 3: " + variable.asType() + " " + variable, isPlain(variable.asType()));
            if (variable.getModifiers().contains(Modifier.STATIC)) {
                due.holds("rule 5: a static field is a constant: " + variable,
                    variable.getModifiers().contains(Modifier.FINAL) && ((VariableElement) variable).getConstantValue() != null);
            }
            return super.visitVariable(tree, none);
        }

        @Override
        public Void visitMethodInvocation(MethodInvocationTree tree, Void none) {
            Element called = trees.getElement(getCurrentPath());
            due.holds("rule 4: no library: " + tree, isOwn(called) || called.getKind() == ElementKind.CONSTRUCTOR);
            note(called);
            return super.visitMethodInvocation(tree, none);
        }

        @Override
        public Void visitNewClass(NewClassTree tree, Void none) {
            Element made = trees.getElement(getCurrentPath());
            due.holds("rule 4: no library: " + tree, isOwn(made));
            due.holds("rule 12: an object is made in a constructor alone: " + method, inConstructor());
            note(made);
            return super.visitNewClass(tree, none);
        }

        @Override
        public Void visitNewArray(NewArrayTree tree, Void none) {
            due.holds("rule 12: an array is made in a constructor alone: " + method, inConstructor());
            return super.visitNewArray(tree, none);
        }

        @Override
        public Void visitTypeCast(TypeCastTree tree, Void none) {
            due.holds("rule 6: a cast of numbers alone: " + tree, typeOf(tree.getType()).getKind().isPrimitive());
            return super.visitTypeCast(tree, none);
        }

        @Override
        public Void visitForLoop(ForLoopTree tree, Void none) {
            boolean counts = tree.getInitializer().size() == 1 && tree.getInitializer().get(0) instanceof VariableTree
                && tree.getCondition() != null && tree.getUpdate().size() == 1;
            due.holds("rule 9: a loop has a counter and a bound: " + tree, counts
                && isCountedBy(tree, ((VariableTree) tree.getInitializer().get(0)).getName().toString()));
            return super.visitForLoop(tree, none);
        }

        /** Whether the loop's counter goes up by one a turn, stands in its condition, and is let alone in its body. */
        private boolean isCountedBy(ForLoopTree loop, String counter) {
            ExpressionStatementTree update = loop.getUpdate().get(0);
            Uses inCondition = new Uses(counter);
            inCondition.scan(loop.getCondition(), null);
            Uses inBody = new Uses(counter);
            inBody.scan(loop.getStatement(), null);
            return update.getExpression().toString().equals(counter + "++")
                && inCondition.read && !inCondition.changed && !inBody.changed;
        }

        @Override
        public Void visitLiteral(LiteralTree tree, Void none) {
            due.holds("rule 10: no text: " + tree, tree.getKind() != Tree.Kind.STRING_LITERAL);
            return super.visitLiteral(tree, none);
        }

        @Override
        public Void visitLambdaExpression(LambdaExpressionTree tree, Void none) {
            return unused(2, tree);
        }

        @Override
        public Void visitMemberReference(MemberReferenceTree tree, Void none) {
            return unused(2, tree);
        }

        @Override
        public Void visitThrow(ThrowTree tree, Void none) {
            return unused(6, tree);
        }

        @Override
        public Void visitTry(TryTree tree, Void none) {
            return unused(6, tree);
        }

        @Override
        public Void visitSynchronized(SynchronizedTree tree, Void none) {
            return unused(6, tree);
        }

        @Override
        public Void visitAssert(AssertTree tree, Void none) {
            return unused(6, tree);
        }

        @Override
        public Void visitInstanceOf(InstanceOfTree tree, Void none) {
            return unused(6, tree);
        }

        @Override
        public Void visitWhileLoop(WhileLoopTree tree, Void none) {
            return unused(9, tree);
        }

        @Override
        public Void visitDoWhileLoop(DoWhileLoopTree tree, Void none) {
            return unused(9, tree);
        }

        @Override
        public Void visitEnhancedForLoop(EnhancedForLoopTree tree, Void none) {
            return unused(9, tree);
        }

        private static Void unused(int rule, Tree tree) {
            due.holds("rule " + rule + ": not used: " + tree, false);
            return null;
        }

        private TypeMirror typeOf(Tree tree) {
            return trees.getTypeMirror(trees.getPath(unit, tree));
        }

        /** Numbers, truth values and own classes, and arrays of one dimension of these. */
        private static boolean isPlain(TypeMirror type) {
            if (type.getKind() == TypeKind.ARRAY) {
                TypeMirror part = ((ArrayType) type).getComponentType();
                return part.getKind() != TypeKind.ARRAY && isPlain(part);
            }
            return switch (type.getKind()) {
                case VOID, INT, LONG, BOOLEAN -> true;
                case DECLARED -> type.toString().startsWith("FlashTree");
                default -> false;
            };
        }

        private static boolean isOwn(Element member) {
            return member != null && member.getEnclosingElement().toString().startsWith("FlashTree");
        }

        private boolean inConstructor() {
            return method != null && method.getKind() == ElementKind.CONSTRUCTOR;
        }

        private void note(Element called) {
            if (method != null && called != null) {
                calls.get(method).add(called);
            }
        }
    }
    /** Whether a variable is read or changed. */
    private static final class Uses extends TreeScanner<Void, Void> {
        private final String name;
        private boolean read = false;
        private boolean changed = false;

        private Uses(String name) {
            this.name = name;
        }

        @Override
        public Void visitIdentifier(IdentifierTree tree, Void none) {
            read |= tree.getName().contentEquals(name);
            return super.visitIdentifier(tree, none);
        }

        @Override
        public Void visitAssignment(AssignmentTree tree, Void none) {
            changed |= tree.getVariable().toString().equals(name);
            return super.visitAssignment(tree, none);
        }

        @Override
        public Void visitCompoundAssignment(CompoundAssignmentTree tree, Void none) {
            changed |= tree.getVariable().toString().equals(name);
            return super.visitCompoundAssignment(tree, none);
        }

        @Override
        public Void visitUnary(UnaryTree tree, Void none) {
            boolean steps = switch (tree.getKind()) {
                case PREFIX_INCREMENT, PREFIX_DECREMENT, POSTFIX_INCREMENT, POSTFIX_DECREMENT -> true;
                default -> false;
            };
            changed |= steps && tree.getExpression().toString().equals(name);
            return super.visitUnary(tree, none);
        }
    }
}
