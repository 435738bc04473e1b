import com.sun.source.tree.ClassTree;
import com.sun.source.tree.CompilationUnitTree;
import com.sun.source.tree.MethodInvocationTree;
import com.sun.source.tree.MethodTree;
import com.sun.source.tree.NewClassTree;
import com.sun.source.util.JavacTask;
import com.sun.source.util.TreePathScanner;
import com.sun.source.util.Trees;
import java.io.IOException;
import java.nio.file.Path;
import java.util.HashMap;
import java.util.List;
import java.util.Map;
import java.util.Set;
import java.util.TreeMap;
import java.util.TreeSet;
import javax.lang.model.element.Element;
import javax.lang.model.element.ElementKind;
import javax.lang.model.element.Modifier;
import javax.tools.JavaCompiler;
import javax.tools.StandardJavaFileManager;
import javax.tools.ToolProvider;

/** What calls what in the class, read from its text: the library's calls, recursion, how deep calls go (rules 4, 8, 11). */
public final class CallTreeTest {
    private static final Check CHECK = new Check();
    private static final int DEEPEST = 8;
    private static final Set<String> LIBRARY = Set.of("String.length", "String.charAt", "Math.max", "Math.min", "Math.floorDiv",
        "Math.floorMod", "Integer.compare", "System.arraycopy", "Arrays.fill", "NoSuchElementException.<init>",
        "Object.<init>");

    private CallTreeTest() { }

    public static void main(String[] args) throws IOException {
        Reader reader = read();
        CHECK.part("the class is read");
        CHECK.due("methods were found", reader.calls.size() > 150, true);
        CHECK.part("rule 4, the library");
        for (String call : reader.foreign) {
            CHECK.due(call + " is of those that rule 4 lists", LIBRARY.contains(call), true);
        }
        CHECK.part("rules 8, 11, calls within calls");
        Map<String, Integer> known = new HashMap<>();
        for (String method : reader.calls.keySet()) {
            int depth = depth(reader.calls, method, 1, known);
            boolean called = reader.face.contains(method);
            CHECK.due(method + " is no recursion, goes " + depth + " deep", called ? depth <= DEEPEST : depth < 100, true);
        }
        CHECK.close();
    }

    private static Reader read() throws IOException {
        Path file = Path.of(System.getProperty("project.root", ".")).resolve("src/main/java/NoticeDesk.java");
        JavaCompiler compiler = ToolProvider.getSystemJavaCompiler();
        try (StandardJavaFileManager files = compiler.getStandardFileManager(null, null, null)) {
            JavacTask task = (JavacTask) compiler.getTask(null, files, null, List.of("-proc:none"), null,
                files.getJavaFileObjects(file));
            Reader reader = new Reader(Trees.instance(task));
            Iterable<? extends CompilationUnitTree> units = task.parse();
            task.analyze();
            for (CompilationUnitTree unit : units) {
                reader.scan(unit, null);
            }
            return reader;
        }
    }

    /** How many calls stand open at once at most, this one counted; 100 and more for recursion. */
    private static int depth(Map<String, Set<String>> calls, String method, int open, Map<String, Integer> known) {
        if (open > 100 || known.containsKey(method)) {
            return known.getOrDefault(method, 100);
        }
        int deepest = 0;
        for (String called : calls.getOrDefault(method, Set.of())) {
            deepest = Math.max(deepest, depth(calls, called, open + 1, known));
        }
        known.put(method, deepest + 1);
        return deepest + 1;
    }

    private static final class Reader extends TreePathScanner<Void, String> {
        final Map<String, Set<String>> calls = new TreeMap<>();
        final Set<String> foreign = new TreeSet<>();
        final Set<String> face = new TreeSet<>();
        private final Trees trees;

        Reader(Trees trees) {
            this.trees = trees;
        }

        @Override
        public Void visitMethod(MethodTree method, String from) {
            Element element = trees.getElement(getCurrentPath());
            String name = nameOf(element);
            calls.putIfAbsent(name, new TreeSet<>());
            if (element.getEnclosingElement().getSimpleName().contentEquals("NoticeDesk")
                && element.getModifiers().contains(Modifier.PUBLIC)) {
                face.add(name);
            }
            return super.visitMethod(method, name);
        }

        @Override
        public Void visitClass(ClassTree inside, String from) {
            return super.visitClass(inside, null);
        }

        @Override
        public Void visitMethodInvocation(MethodInvocationTree call, String from) {
            note(trees.getElement(getCurrentPath()), from);
            return super.visitMethodInvocation(call, from);
        }

        @Override
        public Void visitNewClass(NewClassTree call, String from) {
            note(trees.getElement(getCurrentPath()), from);
            return super.visitNewClass(call, from);
        }

        private void note(Element called, String from) {
            String name = nameOf(called);
            if (isOwn(called)) {
                calls.computeIfAbsent(from == null ? "a field" : from, key -> new TreeSet<>()).add(name);
            } else {
                foreign.add(name.substring(0, name.contains("(") ? name.indexOf('(') : name.length()));
            }
        }

        private static boolean isOwn(Element element) {
            Element outer = element;
            while (outer.getEnclosingElement() != null && outer.getEnclosingElement().getKind() != ElementKind.PACKAGE) {
                outer = outer.getEnclosingElement();
            }
            return outer.getSimpleName().contentEquals("NoticeDesk");
        }

        private static String nameOf(Element method) {
            String full = method.toString();
            String arguments = full.substring(full.indexOf('('));
            return method.getEnclosingElement().getSimpleName() + "." + method.getSimpleName() + arguments;
        }
    }
}
