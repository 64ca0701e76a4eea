import com.sun.source.tree.ClassTree;
import com.sun.source.tree.CompilationUnitTree;
import com.sun.source.tree.MethodInvocationTree;
import com.sun.source.tree.MethodTree;
import com.sun.source.tree.VariableTree;
import com.sun.source.util.JavacTask;
import com.sun.source.util.SourcePositions;
import com.sun.source.util.TreePathScanner;
import com.sun.source.util.Trees;
import java.io.IOException;
import java.io.UncheckedIOException;
import java.nio.file.Path;
import java.util.ArrayList;
import java.util.LinkedHashMap;
import java.util.LinkedHashSet;
import java.util.List;
import java.util.Map;
import java.util.Set;
import javax.lang.model.element.Element;
import javax.lang.model.element.ElementKind;
import javax.lang.model.element.Modifier;
import javax.tools.JavaCompiler;
import javax.tools.StandardJavaFileManager;
import javax.tools.ToolProvider;

/** The rules of LANGUAGE.md that bound the program's own measures, as the compiler reads its text. */
public final class RulesTest {
    private static final Due DUE = new Due("RulesTest");
    private static final Path SOURCE = Path.of("src/main/java/WideHash.java");

    public static void main(String[] args) {
        Program program = new Program();
        DUE.test("LANGUAGE 8: no method comes back to itself", () -> noRecursion(program));
        DUE.test("LANGUAGE 11: calls that are no recursion go at most eight deep", () -> atMostEightDeep(program));
        DUE.test("LANGUAGE 11: A method takes at most seven parameters", () -> parameters(program));
        DUE.test("LANGUAGE 11: Methods stay short (some sixty lines)", () -> lines(program));
        DUE.test("LANGUAGE 11: the file has at most some twelve classes", () -> classes(program));
        DUE.test("LANGUAGE 11: a class some twenty fields beside its constants", () -> fields(program));
        DUE.end();
    }

    private static void noRecursion(Program program) {
        for (Element method : program.calls.keySet()) {
            boolean comesBack = reached(program, method, new LinkedHashSet<>()).contains(method);
            DUE.is(named(method) + " comes back to itself", comesBack, false);
        }
    }

    private static Set<Element> reached(Program program, Element from, Set<Element> already) {
        for (Element to : program.callsOf(from)) {
            if (already.add(to)) {
                reached(program, to, already);
            }
        }
        return already;
    }

    /** The call from outside is the first one. */
    private static void atMostEightDeep(Program program) {
        for (Element method : program.calls.keySet()) {
            List<String> deepest = deepest(program, method, 0);
            DUE.is("no more than eight: " + deepest, deepest.size() <= 8, true);
        }
    }

    /** Twenty levels end it, so that a recursion in the program is none without an end here. */
    private static List<String> deepest(Program program, Element from, int level) {
        List<String> deepest = List.of();
        for (Element to : level < 20 ? program.callsOf(from) : Set.<Element>of()) {
            List<String> below = deepest(program, to, level + 1);
            if (below.size() > deepest.size()) {
                deepest = below;
            }
        }
        List<String> path = new ArrayList<>(deepest);
        path.add(0, named(from));
        return path;
    }

    private static void parameters(Program program) {
        program.parameters.forEach((method, n) -> DUE.is(named(method) + " takes " + n, n <= 7, true));
    }

    private static void lines(Program program) {
        program.lines.forEach((method, n) -> DUE.is(named(method) + " has " + n + " lines", n <= 60, true));
    }

    private static void classes(Program program) {
        DUE.is(program.fields.size() + " classes", program.fields.size() <= 12, true);
    }

    private static void fields(Program program) {
        program.fields.forEach((owner, n) -> DUE.is(owner + " has " + n + " fields", n <= 20, true));
    }

    private static String named(Element method) {
        return method.getEnclosingElement().getSimpleName() + "." + method.getSimpleName();
    }

    /** The program's text: which method calls which, and how large its parts are. */
    private static final class Program extends TreePathScanner<Void, Element> {
        final Map<Element, Set<Element>> calls = new LinkedHashMap<>();
        final Map<Element, Integer> parameters = new LinkedHashMap<>();
        final Map<Element, Long> lines = new LinkedHashMap<>();
        final Map<Element, Integer> fields = new LinkedHashMap<>();
        private Trees trees;

        Program() {
            JavaCompiler compiler = ToolProvider.getSystemJavaCompiler();
            try (StandardJavaFileManager files = compiler.getStandardFileManager(null, null, null)) {
                JavacTask task = (JavacTask) compiler.getTask(null, files, null, List.of("-proc:none"), null,
                        files.getJavaFileObjects(SOURCE));
                trees = Trees.instance(task);
                Iterable<? extends CompilationUnitTree> units = task.parse();
                task.analyze();
                scan(units, null);
            } catch (IOException e) {
                throw new UncheckedIOException(e);
            }
        }

        Set<Element> callsOf(Element method) {
            return calls.getOrDefault(method, Set.of());
        }

        @Override
        public Void visitClass(ClassTree tree, Element within) {
            fields.put(trees.getElement(getCurrentPath()), 0);
            return super.visitClass(tree, null);
        }

        @Override
        public Void visitVariable(VariableTree tree, Element within) {
            Element variable = trees.getElement(getCurrentPath());
            if (variable.getKind() == ElementKind.FIELD && !variable.getModifiers().contains(Modifier.STATIC)) {
                fields.merge(variable.getEnclosingElement(), 1, Integer::sum);
            }
            return super.visitVariable(tree, within);
        }

        @Override
        public Void visitMethod(MethodTree tree, Element within) {
            Element method = trees.getElement(getCurrentPath());
            calls.put(method, new LinkedHashSet<>());
            parameters.put(method, tree.getParameters().size());
            CompilationUnitTree unit = getCurrentPath().getCompilationUnit();
            SourcePositions places = trees.getSourcePositions();
            long first = unit.getLineMap().getLineNumber(places.getStartPosition(unit, tree));
            long last = unit.getLineMap().getLineNumber(places.getEndPosition(unit, tree));
            lines.put(method, last - first + 1);
            return super.visitMethod(tree, method);
        }

        @Override
        public Void visitMethodInvocation(MethodInvocationTree tree, Element within) {
            if (within != null) {
                calls.get(within).add(trees.getElement(getCurrentPath()));
            }
            return super.visitMethodInvocation(tree, within);
        }
    }
}
