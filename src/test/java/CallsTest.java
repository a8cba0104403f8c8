import com.sun.source.tree.ClassTree;
import com.sun.source.tree.CompilationUnitTree;
import com.sun.source.tree.IdentifierTree;
import com.sun.source.tree.MemberSelectTree;
import com.sun.source.tree.MethodInvocationTree;
import com.sun.source.tree.MethodTree;
import com.sun.source.tree.Tree;
import com.sun.source.tree.VariableTree;
import com.sun.source.util.JavacTask;
import com.sun.source.util.TreeScanner;
import java.io.IOException;
import java.nio.file.Path;
import java.util.List;
import java.util.Map;
import java.util.Set;
import java.util.TreeMap;
import java.util.TreeSet;
import javax.lang.model.element.Modifier;
import javax.tools.JavaCompiler;
import javax.tools.StandardJavaFileManager;
import javax.tools.ToolProvider;

/** Rules 8 and 11 of LANGUAGE.md: how deep calls go, parameters, fields, classes. Methods are told by their names alone. */
public final class CallsTest {
    private static final int DEEPEST = 8;
    private static final int MOST_PARAMETERS = 7;
    private static final int MOST_FIELDS = 20;
    private static final int MOST_CLASSES = 12;
    private static final Check CHECK = new Check("CallsTest");

    public static void main(String[] args) throws IOException {
        Path root = Path.of(args.length > 0 ? args[0] : ".");
        CompilationUnitTree unit = parsed(root.resolve("src/main/java/HeatStadium.java"));
        Map<String, Set<String>> calls = new TreeMap<>();
        Set<String> classes = new TreeSet<>();
        new TreeScanner<Void, Void>() {
            @Override
            public Void visitClass(ClassTree tree, Void none) {
                classes.add(tree.getSimpleName().toString());
                CHECK.due("fields of " + tree.getSimpleName(), fieldsOf(tree) <= MOST_FIELDS, true);
                return super.visitClass(tree, none);
            }

            @Override
            public Void visitMethod(MethodTree tree, Void none) {
                CHECK.due("parameters of " + tree.getName(), tree.getParameters().size() <= MOST_PARAMETERS, true);
                calls.computeIfAbsent(tree.getName().toString(), n -> new TreeSet<>()).addAll(calledBy(tree));
                return super.visitMethod(tree, none);
            }
        }.scan(unit, null);
        CHECK.due("classes", classes.size() <= MOST_CLASSES, true);
        for (String name : calls.keySet()) {
            int depth = depth(name, calls, 1);
            CHECK.due("calls from " + name + " go " + depth + " deep", depth <= DEEPEST, true);
        }
        CHECK.finish();
    }

    private static CompilationUnitTree parsed(Path file) throws IOException {
        JavaCompiler compiler = ToolProvider.getSystemJavaCompiler();
        try (StandardJavaFileManager files = compiler.getStandardFileManager(null, null, null)) {
            JavacTask task = (JavacTask) compiler.getTask(null, files, null, null, null,
                    files.getJavaFileObjects(file.toFile()));
            return task.parse().iterator().next();
        }
    }

    private static long fieldsOf(ClassTree tree) {
        return tree.getMembers().stream().filter(member -> member.getKind() == Tree.Kind.VARIABLE)
                .filter(member -> !((VariableTree) member).getModifiers().getFlags().contains(Modifier.STATIC)).count();
    }

    private static Set<String> calledBy(MethodTree method) {
        Set<String> called = new TreeSet<>();
        new TreeScanner<Void, Void>() {
            @Override
            public Void visitMethodInvocation(MethodInvocationTree tree, Void none) {
                Tree selected = tree.getMethodSelect();
                if (selected instanceof IdentifierTree name) {
                    called.add(name.getName().toString());
                } else if (selected instanceof MemberSelectTree member) {
                    called.add(member.getIdentifier().toString());
                }
                return super.visitMethodInvocation(tree, none);
            }
        }.scan(method, null);
        called.removeAll(List.of("super"));
        return called;
    }

    /** A recursion would go deeper than any bound, and ends here. */
    private static int depth(String name, Map<String, Set<String>> calls, int open) {
        if (open > DEEPEST) {
            return 1;
        }
        int deepest = 0;
        for (String called : calls.getOrDefault(name, Set.of())) {
            CHECK.due("where " + called + " stands, called by " + name, calls.containsKey(called), true);
            deepest = Math.max(deepest, depth(called, calls, open + 1));
        }
        return 1 + deepest;
    }
}
