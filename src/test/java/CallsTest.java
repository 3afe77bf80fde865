import com.sun.source.tree.CompilationUnitTree;
import com.sun.source.tree.MethodInvocationTree;
import com.sun.source.tree.MethodTree;
import com.sun.source.tree.NewClassTree;
import com.sun.source.tree.VariableTree;
import com.sun.source.util.JavacTask;
import com.sun.source.util.TreePath;
import com.sun.source.util.TreePathScanner;
import com.sun.source.util.Trees;
import java.io.File;
import java.util.ArrayList;
import java.util.LinkedHashSet;
import java.util.List;
import java.util.Map;
import java.util.Set;
import java.util.TreeMap;
import java.util.TreeSet;
import javax.lang.model.element.Element;
import javax.lang.model.element.ElementKind;
import javax.lang.model.element.Modifier;
import javax.tools.JavaCompiler;
import javax.tools.StandardJavaFileManager;
import javax.tools.ToolProvider;

/** What of ../shared/LANGUAGE.md takes to know who calls whom: the library of rule 4, the depths of rules 8 and 11. */
public final class CallsTest extends TreePathScanner<Void, String> {
    private static final String SOURCE = "src/main/java/HailClub.java";
    private static final Set<String> LIBRARY = Set.of("java.lang.Object.Object()", "java.lang.Math.abs(int)",
        "java.lang.Math.max(int,int)", "java.lang.Math.max(long,long)", "java.lang.Math.min(int,int)",
        "java.lang.Math.min(long,long)", "java.lang.String.charAt(int)", "java.lang.String.length()",
        "java.lang.System.arraycopy(java.lang.Object,int,java.lang.Object,int,int)");
    // What reads a SUM is the one recursion; brackets keep it low.
    private static final Set<String> RECURSION = Set.of("Reader.readSum()", "Reader.readPart()",
        "Reader.readInBrackets(int)");

    private final Trees trees;
    private final Map<String, Set<String>> calls = new TreeMap<>();
    private final Map<String, Integer> fields = new TreeMap<>();
    private final Set<String> library = new TreeSet<>();
    private final Set<String> recursive = new TreeSet<>();

    private CallsTest(Trees trees) {
        this.trees = trees;
    }

    public static void main(String[] args) throws Exception {
        JavaCompiler compiler = ToolProvider.getSystemJavaCompiler();
        try (StandardJavaFileManager files = compiler.getStandardFileManager(null, null, null)) {
            JavacTask task = (JavacTask) compiler.getTask(null, files, null, null, null,
                files.getJavaFileObjects(new File(SOURCE)));
            CallsTest test = new CallsTest(Trees.instance(task));
            List<CompilationUnitTree> units = new ArrayList<>();
            task.parse().forEach(units::add);
            task.analyze();
            for (CompilationUnitTree unit : units) {
                test.scan(unit, null);
            }
            test.ask();
        }
        Check.close("CallsTest");
    }

    private void ask() {
        for (String used : library) {
            Check.due(used + " is of the library", LIBRARY.contains(used), true);
        }
        for (String owner : fields.keySet()) {
            Check.due("twenty fields at most in " + owner, fields.get(owner) <= 20, true);
        }
        for (String method : calls.keySet()) {
            List<String> deepest = deepest(method, new LinkedHashSet<>());
            Check.due("eight deep at most: " + deepest, deepest.size() <= 8, true);
        }
        Check.due("methods that come back to themselves: " + recursive, recursive.equals(RECURSION), true);
        Check.due("methods", calls.size() > 100, true);
    }

    /** The longest row of calls from a method on, none of them twice. */
    private List<String> deepest(String method, Set<String> open) {
        if (!open.add(method)) {
            List<String> round = new ArrayList<>(open);
            recursive.addAll(round.subList(round.indexOf(method), round.size()));
            return List.of();
        }
        List<String> longest = List.of();
        for (String next : calls.getOrDefault(method, Set.of())) {
            List<String> row = deepest(next, open);
            longest = row.size() > longest.size() ? row : longest;
        }
        open.remove(method);
        List<String> all = new ArrayList<>(longest);
        all.add(0, method);
        return all;
    }

    private static String name(Element method) {
        return method.getEnclosingElement().getSimpleName() + "." + method;
    }

    private void calls(String from, Element method) {
        String owner = method.getEnclosingElement().toString();
        if (owner.startsWith("java")) {
            library.add(owner + "." + method);
        } else if (from != null) {
            calls.get(from).add(name(method));
        }
    }

    @Override
    public Void visitMethod(MethodTree tree, String from) {
        String name = name(trees.getElement(getCurrentPath()));
        calls.put(name, new TreeSet<>());
        return super.visitMethod(tree, name);
    }

    @Override
    public Void visitVariable(VariableTree tree, String from) {
        Element variable = trees.getElement(getCurrentPath());
        if (variable.getKind() == ElementKind.FIELD && !variable.getModifiers().contains(Modifier.STATIC)) {
            fields.merge(variable.getEnclosingElement().toString(), 1, Integer::sum);
        }
        return super.visitVariable(tree, from);
    }

    @Override
    public Void visitMethodInvocation(MethodInvocationTree tree, String from) {
        calls(from, trees.getElement(new TreePath(getCurrentPath(), tree.getMethodSelect())));
        return super.visitMethodInvocation(tree, from);
    }

    @Override
    public Void visitNewClass(NewClassTree tree, String from) {
        calls(from, trees.getElement(getCurrentPath()));
        return super.visitNewClass(tree, from);
    }
}
