import com.sun.source.tree.ClassTree;
import com.sun.source.tree.CompilationUnitTree;
import com.sun.source.tree.MethodInvocationTree;
import com.sun.source.tree.MethodTree;
import com.sun.source.tree.NewClassTree;
import com.sun.source.tree.VariableTree;
import com.sun.source.util.JavacTask;
import com.sun.source.util.TreePathScanner;
import com.sun.source.util.Trees;
import java.io.IOException;
import java.nio.file.Path;
import java.util.HashSet;
import java.util.Map;
import java.util.Set;
import java.util.TreeMap;
import java.util.TreeSet;
import javax.lang.model.element.Element;
import javax.tools.JavaCompiler;
import javax.tools.StandardJavaFileManager;
import javax.tools.ToolProvider;

/** What the compiler makes of the class's file: who calls whom, what of the library is called, and all types. */
final class Source extends TreePathScanner<Void, String> {
    /** By its class and signature each own method or constructor, with those that it calls. */
    final Map<String, Set<String>> calls = new TreeMap<>();
    final Set<String> library = new TreeSet<>();
    final Set<String> types = new TreeSet<>();
    private final Trees trees;

    private Source(Trees trees) {
        this.trees = trees;
    }

    static Source of(Path file) throws IOException {
        JavaCompiler compiler = ToolProvider.getSystemJavaCompiler();
        try (StandardJavaFileManager files = compiler.getStandardFileManager(null, null, null)) {
            JavacTask task = (JavacTask) compiler.getTask(null, files, null, null, null, files.getJavaFileObjects(file));
            Iterable<? extends CompilationUnitTree> units = task.parse();
            task.analyze();
            Source read = new Source(Trees.instance(task));
            for (CompilationUnitTree each : units) {
                read.scan(each, "");
            }
            return read;
        }
    }

    /** A field's initialiser is done by the constructor; no class of the file has more than one. */
    @Override
    public Void visitClass(ClassTree tree, String caller) {
        String made = trees.getElement(getCurrentPath()) + ".new";
        calls.putIfAbsent(made, new TreeSet<>());
        return super.visitClass(tree, made);
    }

    @Override
    public Void visitMethod(MethodTree tree, String caller) {
        String name = nameOf(trees.getElement(getCurrentPath()));
        calls.putIfAbsent(name, new TreeSet<>());
        return super.visitMethod(tree, name);
    }

    @Override
    public Void visitMethodInvocation(MethodInvocationTree tree, String caller) {
        note(caller, trees.getElement(getCurrentPath()));
        return super.visitMethodInvocation(tree, caller);
    }

    @Override
    public Void visitNewClass(NewClassTree tree, String caller) {
        note(caller, trees.getElement(getCurrentPath()));
        return super.visitNewClass(tree, caller);
    }

    @Override
    public Void visitVariable(VariableTree tree, String caller) {
        types.add(trees.getElement(getCurrentPath()).asType().toString());
        return super.visitVariable(tree, caller);
    }

    private void note(String caller, Element called) {
        String name = nameOf(called);
        if (name.startsWith("RegisterFleet")) {
            calls.get(caller).add(name);
        } else if (!name.equals("java.lang.Object.new")) {
            library.add(name);
        }
    }

    private static String nameOf(Element method) {
        boolean maker = method.getSimpleName().contentEquals("<init>");
        return method.getEnclosingElement() + "." + (maker ? "new" : method.toString());
    }

    /** How many calls stand open at most, from this one on; more than there are methods if one calls itself. */
    int depth(String method) {
        return depth(method, new HashSet<>());
    }

    private int depth(String method, Set<String> open) {
        if (!open.add(method)) {
            return calls.size() + 1;
        }
        int deepest = 0;
        for (String each : calls.getOrDefault(method, Set.of())) {
            deepest = Math.max(deepest, depth(each, open));
        }
        open.remove(method);
        return deepest + 1;
    }
}
