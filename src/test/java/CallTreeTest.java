import com.sun.source.tree.CompilationUnitTree;
import com.sun.source.tree.MethodInvocationTree;
import com.sun.source.tree.MethodTree;
import com.sun.source.tree.NewArrayTree;
import com.sun.source.tree.NewClassTree;
import com.sun.source.util.JavacTask;
import com.sun.source.util.TreePath;
import com.sun.source.util.TreePathScanner;
import com.sun.source.util.Trees;
import java.io.IOException;
import java.nio.file.Path;
import java.util.ArrayList;
import java.util.HashMap;
import java.util.LinkedHashSet;
import java.util.List;
import java.util.Map;
import java.util.Set;
import javax.lang.model.element.Element;
import javax.lang.model.element.ElementKind;
import javax.lang.model.element.Modifier;
import javax.tools.JavaCompiler;
import javax.tools.StandardJavaFileManager;
import javax.tools.ToolProvider;

/**
 * Rules 4, 8, 11 and 12 of LANGUAGE.md by the compiler's own tree of the class: what is called, how deep, what
 * goes round, how long methods are, where objects are made.
 */
public final class CallTreeTest {
    private static final Path SOURCE = Path.of("src/main/java/NoArmsCrossed.java");
    private static final Set<String> LIBRARY = Set.of("Math.max", "Math.min", "Integer.bitCount", "Long.bitCount",
        "System.arraycopy", "String.length", "String.charAt");
    private static final int DEEPEST = 8;
    private static final int LINES_MOST = 60;

    /** Of each own method those that it calls. */
    private static final Map<Element, Set<Element>> CALLED = new HashMap<>();
    private static final List<String> MADE_IN_CALLS = new ArrayList<>();

    public static void main(String[] args) throws IOException {
        JavaCompiler compiler = ToolProvider.getSystemJavaCompiler();
        try (StandardJavaFileManager files = compiler.getStandardFileManager(null, null, null)) {
            JavacTask task = (JavacTask) compiler.getTask(null, files, null, List.of("-proc:none"), null,
                files.getJavaFileObjects(SOURCE));
            Iterable<? extends CompilationUnitTree> units = task.parse();
            task.analyze();
            for (CompilationUnitTree unit : units) {
                new Reader(Trees.instance(task), unit).scan(unit, null);
            }
        }
        depths();
        recursion();
        Due.is("made in calls: " + MADE_IN_CALLS, MADE_IN_CALLS.size(), 0);
        Due.end("CallTreeTest");
    }

    private static final class Reader extends TreePathScanner<Void, Void> {
        private final Trees trees;
        private final CompilationUnitTree unit;
        /** Null in a field's initialiser. */
        private Element method = null;

        Reader(Trees trees, CompilationUnitTree unit) {
            this.trees = trees;
            this.unit = unit;
        }

        @Override
        public Void visitMethod(MethodTree tree, Void none) {
            method = trees.getElement(getCurrentPath());
            CALLED.put(method, new LinkedHashSet<>());
            Due.is("lines of " + told(method) + " beyond some sixty", Math.max(0, lines(tree) - LINES_MOST), 0);
            super.visitMethod(tree, none);
            method = null;
            return null;
        }

        private long lines(MethodTree tree) {
            long from = trees.getSourcePositions().getStartPosition(unit, tree);
            long to = trees.getSourcePositions().getEndPosition(unit, tree);
            boolean isWritten = from >= 0 && to >= 0;
            return isWritten ? unit.getLineMap().getLineNumber(to) - unit.getLineMap().getLineNumber(from) + 1 : 0;
        }

        @Override
        public Void visitMethodInvocation(MethodInvocationTree tree, Void none) {
            Element called = trees.getElement(new TreePath(getCurrentPath(), tree.getMethodSelect()));
            boolean isOfObject = called.getKind() == ElementKind.CONSTRUCTOR;
            boolean isOwn = called.getEnclosingElement().toString().startsWith("NoArmsCrossed");
            if (isOwn && method != null) {
                CALLED.get(method).add(called);
            } else if (!isOfObject) {
                Due.is("of the library: " + told(called), LIBRARY.contains(told(called)) ? 1 : 0, 1);
            }
            return super.visitMethodInvocation(tree, none);
        }

        @Override
        public Void visitNewClass(NewClassTree tree, Void none) {
            noteMade(tree.toString());
            return super.visitNewClass(tree, none);
        }

        @Override
        public Void visitNewArray(NewArrayTree tree, Void none) {
            noteMade(tree.toString());
            return super.visitNewArray(tree, none);
        }

        /** One room for all calls of a run: rows are made with the object, and used again. */
        private void noteMade(String what) {
            if (method != null && method.getKind() == ElementKind.METHOD) {
                MADE_IN_CALLS.add(what + " in " + told(method));
            }
        }
    }

    private static String told(Element method) {
        return method.getEnclosingElement().getSimpleName() + "." + method.getSimpleName();
    }

    private static void depths() {
        for (Element method : CALLED.keySet()) {
            if (method.getModifiers().contains(Modifier.PUBLIC)) {
                List<String> chain = deepest(method, new ArrayList<>());
                Due.is("deeper than eight: " + chain, Math.max(0, chain.size() - DEEPEST), 0);
            }
        }
        Due.is("the methods of the face are among them", CALLED.size() > 46 ? 1 : 0, 1);
    }

    /** The longest chain of own calls from here on; a call of what stands open is recursion, and not followed. */
    private static List<String> deepest(Element method, List<Element> open) {
        List<Element> here = new ArrayList<>(open);
        here.add(method);
        List<String> longest = new ArrayList<>();
        for (Element called : CALLED.getOrDefault(method, Set.of())) {
            if (!here.contains(called)) {
                List<String> chain = deepest(called, here);
                longest = chain.size() > longest.size() ? chain : longest;
            }
        }
        longest.add(0, told(method));
        return longest;
    }

    /** What goes round is a private static method that calls itself, nothing else. */
    private static void recursion() {
        for (Element method : CALLED.keySet()) {
            Set<Element> reached = new LinkedHashSet<>(CALLED.get(method));
            boolean callsItself = reached.remove(method);
            List<Element> ahead = new ArrayList<>(reached);
            for (int i = 0; i < ahead.size(); i++) {
                for (Element next : CALLED.getOrDefault(ahead.get(i), Set.of())) {
                    if (reached.add(next)) {
                        ahead.add(next);
                    }
                }
            }
            Due.is(told(method) + " goes round by way of others", reached.contains(method) ? 1 : 0, 0);
            boolean isAllowed = method.getModifiers().containsAll(Set.of(Modifier.PRIVATE, Modifier.STATIC));
            Due.is(told(method) + " calls itself, not private static", callsItself && !isAllowed ? 1 : 0, 0);
        }
    }
}
