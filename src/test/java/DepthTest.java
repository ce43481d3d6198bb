import com.sun.source.tree.ClassTree;
import com.sun.source.tree.CompilationUnitTree;
import com.sun.source.tree.MethodInvocationTree;
import com.sun.source.tree.MethodTree;
import com.sun.source.tree.NewClassTree;
import com.sun.source.tree.Tree;
import com.sun.source.util.JavacTask;
import com.sun.source.util.TreePathScanner;
import com.sun.source.util.Trees;
import java.io.IOException;
import java.nio.file.Path;
import java.util.ArrayDeque;
import java.util.Deque;
import java.util.LinkedHashMap;
import java.util.LinkedHashSet;
import java.util.List;
import java.util.Map;
import java.util.Set;
import javax.lang.model.element.Element;
import javax.lang.model.element.Modifier;
import javax.tools.JavaCompiler;
import javax.tools.StandardJavaFileManager;
import javax.tools.ToolProvider;

/** LANGUAGE.md, rules 8 and 11: no method of the class comes back to itself, and calls go at most eight deep. */
public final class DepthTest extends TreePathScanner<Void, Trees> {
    private static final int DEEPEST = 8;

    private final Map<String, Set<String>> called = new LinkedHashMap<>();
    private final Set<String> face = new LinkedHashSet<>();
    private final Deque<String> open = new ArrayDeque<>();
    private final Deque<String> classes = new ArrayDeque<>();
    private List<String> longest = List.of();

    public static void main(String[] args) throws IOException {
        DepthTest test = new DepthTest();
        test.read();
        Check.due("calls of the face", test.face.size(), 36);
        for (String method : test.face) {
            test.go(method);
        }
        System.out.println("DepthTest: the deepest is " + String.join(", ", test.longest));
        Check.due("how deep calls go", test.longest.size() <= DEEPEST ? 1 : 0, 1);
        Check.end("DepthTest");
    }

    private void read() throws IOException {
        JavaCompiler compiler = ToolProvider.getSystemJavaCompiler();
        try (StandardJavaFileManager files = compiler.getStandardFileManager(null, null, null)) {
            JavacTask task = (JavacTask) compiler.getTask(null, files, null, null, null, files.getJavaFileObjects(Path.of("src/main/java/WoolThreads.java")));
            for (CompilationUnitTree unit : task.parse()) {
                task.analyze();
                scan(unit, Trees.instance(task));
            }
        }
    }

    @Override
    public Void visitClass(ClassTree tree, Trees trees) {
        classes.push(tree.getSimpleName().toString());
        super.visitClass(tree, trees);
        classes.pop();
        return null;
    }

    @Override
    public Void visitMethod(MethodTree tree, Trees trees) {
        String name = classes.peek() + "." + tree.getName();
        boolean isPublic = tree.getModifiers().getFlags().contains(Modifier.PUBLIC);
        if (isPublic && tree.getReturnType() != null) {
            face.add(name);
        }
        called.computeIfAbsent(name, n -> new LinkedHashSet<>());
        open.push(name);
        super.visitMethod(tree, trees);
        open.pop();
        return null;
    }

    @Override
    public Void visitMethodInvocation(MethodInvocationTree tree, Trees trees) {
        note(tree, trees);
        return super.visitMethodInvocation(tree, trees);
    }

    @Override
    public Void visitNewClass(NewClassTree tree, Trees trees) {
        note(tree, trees);
        return super.visitNewClass(tree, trees);
    }

    private void note(Tree tree, Trees trees) {
        Element target = trees.getElement(getCurrentPath());
        if (target != null && !open.isEmpty()) {
            called.get(open.peek()).add(target.getEnclosingElement().getSimpleName() + "." + target.getSimpleName());
        }
    }

    private void go(String method) {
        if (open.contains(method)) {
            Check.dueText("no method comes back to itself", method, "");
            return;
        }
        open.addLast(method);
        if (open.size() > longest.size()) {
            longest = List.copyOf(open);
        }
        for (String next : called.getOrDefault(method, Set.of())) {
            go(next);
        }
        open.removeLast();
    }
}
