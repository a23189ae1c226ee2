import com.sun.source.tree.ClassTree;
import com.sun.source.tree.CompilationUnitTree;
import com.sun.source.tree.LineMap;
import com.sun.source.tree.MethodInvocationTree;
import com.sun.source.tree.MethodTree;
import com.sun.source.tree.NewClassTree;
import com.sun.source.tree.VariableTree;
import com.sun.source.util.JavacTask;
import com.sun.source.util.SourcePositions;
import com.sun.source.util.TreePathScanner;
import com.sun.source.util.Trees;
import java.io.IOException;
import java.util.ArrayDeque;
import java.util.Deque;
import java.util.LinkedHashMap;
import java.util.LinkedHashSet;
import java.util.List;
import java.util.Map;
import java.util.Set;
import javax.lang.model.element.Element;
import javax.lang.model.element.ElementKind;
import javax.lang.model.element.Modifier;
import javax.tools.JavaCompiler;
import javax.tools.StandardJavaFileManager;
import javax.tools.ToolProvider;

/** The rules of LANGUAGE.md that bound the source: parameters, lines, fields, classes, and how deep calls go. */
public final class LanguageTest {
    private static final int MOST_PARAMETERS = 7;
    private static final int MOST_LINES = 60;
    private static final int DEEPEST = 8;
    private static final int MOST_CLASSES = 12;
    private static final int MOST_FIELDS = 20;

    private static final Due due = new Due();

    public static void main(String[] args) throws IOException {
        JavaCompiler compiler = ToolProvider.getSystemJavaCompiler();
        StandardJavaFileManager files = compiler.getStandardFileManager(null, null, null);
        JavacTask task = (JavacTask) compiler.getTask(null, files, null, List.of("-proc:none"), null,
            files.getJavaFileObjects("src/main/java/FlashTree.java"));
        CompilationUnitTree unit = task.parse().iterator().next();
        task.analyze();
        Reader reader = new Reader(unit, Trees.instance(task));
        reader.scan(unit, null);
        due.holds("at most twelve classes", reader.classes <= MOST_CLASSES);
        for (Element method : reader.calls.keySet()) {
            callsFrom(method, reader.calls, new ArrayDeque<>());
        }
        due.end();
    }

    private static void callsFrom(Element method, Map<Element, Set<Element>> calls, Deque<Element> open) {
        if (open.contains(method)) {
            due.holds("no recursion: " + open + " calls " + method, false);
            return;
        }
        open.addLast(method);
        due.holds("at most eight calls deep: " + open, open.size() <= DEEPEST);
        for (Element called : calls.getOrDefault(method, Set.of())) {
            callsFrom(called, calls, open);
        }
        open.removeLast();
    }

    private static final class Reader extends TreePathScanner<Void, Void> {
        private final CompilationUnitTree unit;
        private final Trees trees;
        private final Map<Element, Set<Element>> calls = new LinkedHashMap<>();
        private int classes = 0;
        private Element method = null;

        private Reader(CompilationUnitTree unit, Trees trees) {
            this.unit = unit;
            this.trees = trees;
        }

        @Override
        public Void visitClass(ClassTree tree, Void none) {
            classes++;
            int fields = 0;
            for (var member : tree.getMembers()) {
                if (member instanceof VariableTree field && !field.getModifiers().getFlags().contains(Modifier.STATIC)) {
                    fields++;
                }
            }
            due.holds("at most twenty fields: " + tree.getSimpleName(), fields <= MOST_FIELDS);
            return super.visitClass(tree, none);
        }

        @Override
        public Void visitMethod(MethodTree tree, Void none) {
            method = trees.getElement(getCurrentPath());
            calls.put(method, new LinkedHashSet<>());
            due.holds("at most seven parameters: " + method, tree.getParameters().size() <= MOST_PARAMETERS);
            due.holds("at most sixty lines: " + method, lines(tree) <= MOST_LINES);
            return super.visitMethod(tree, none);
        }

        private long lines(MethodTree tree) {
            SourcePositions at = trees.getSourcePositions();
            LineMap map = unit.getLineMap();
            long end = at.getEndPosition(unit, tree);
            // The constructor that javac adds to a class without one has no place in the source.
            return end < 0 ? 0 : map.getLineNumber(end) - map.getLineNumber(at.getStartPosition(unit, tree)) + 1;
        }

        @Override
        public Void visitMethodInvocation(MethodInvocationTree tree, Void none) {
            note(trees.getElement(getCurrentPath()));
            return super.visitMethodInvocation(tree, none);
        }

        @Override
        public Void visitNewClass(NewClassTree tree, Void none) {
            due.holds("an object is made in a constructor alone: " + method,
                method != null && method.getKind() == ElementKind.CONSTRUCTOR);
            note(trees.getElement(getCurrentPath()));
            return super.visitNewClass(tree, none);
        }

        private void note(Element called) {
            if (method != null && called != null) {
                calls.get(method).add(called);
            }
        }
    }
}
