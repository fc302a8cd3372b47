import com.sun.source.tree.ClassTree;
import com.sun.source.tree.CompilationUnitTree;
import com.sun.source.tree.Tree;
import com.sun.source.util.JavacTask;
import com.sun.source.util.Trees;
import java.io.IOException;
import java.lang.reflect.Field;
import java.lang.reflect.Method;
import java.lang.reflect.Modifier;
import java.nio.file.Files;
import java.nio.file.Path;
import java.util.ArrayList;
import java.util.List;
import java.util.Map;
import java.util.Set;
import java.util.TreeSet;
import java.util.regex.Matcher;
import java.util.regex.Pattern;
import javax.lang.model.element.Element;
import javax.lang.model.element.ExecutableElement;
import javax.tools.JavaCompiler;
import javax.tools.StandardJavaFileManager;
import javax.tools.ToolProvider;

/** The public face, and what of LANGUAGE.md can be seen by a machine, by the number of its rule. */
public final class RulesTest {
    private static final Due DUE = new Due();
    private static final String[] FACE = {
        "int village(int,int)", "int mend(int,int,int)", "int of(int,int)", "int mix(int,int,int)",
        "int mixes(int,int,int)", "int feed(int)", "int law()", "int won(int,int)", "int score(int,int)",
        "long mean(int)", "int best(int)", "long line(int,int,int)", "long spy(int,int)", "long broke(int,int)",
        "int beaten(int,int)", "int safest(int,int)", "int ring(int)", "int rest(int)", "int sure(int)", "int most(int)",
        "int fewest(int)", "int year(int,int)", "int years(int)", "int image()", "int back()", "int undo()", "int redo()",
        "int body(int)", "int act(int,int,int)", "int trace(int)", "int keep(int,int)", "int row(int,int,int)",
        "int put(int,int,long)", "long element(int,int)", "int shift(int,int,int,int,int)", "int taken(int,int)",
        "int count(int)"};
    private static final String HEADINGS = """
        ---- villages, loaves, mixes
        village
        mend
        of
        mix
        mixes
        feed
        law
        ---- one day
        won
        score
        ---- against a mix (part 0 above, 1 below the line; Long.MIN_VALUE: BAD)
        mean
        best
        line
        spy
        broke
        ---- by all partings
        beaten
        safest
        ring
        rest
        sure
        most
        fewest
        ---- years
        year
        years
        image
        back
        undo
        redo
        ---- acts, shelves
        body
        act
        trace
        keep
        row
        put
        element
        shift
        taken
        count
        """;
    private static final Map<String, Integer> CONSTANTS =
        Map.of("BAD", -1, "NOT", -2, "FULL", -3, "STATE", -5, "VOID", -2000000000);

    private static void face() {
        Set<String> due = new TreeSet<>(List.of(FACE));
        Set<String> got = new TreeSet<>();
        for (Method method : NineCarts.class.getDeclaredMethods()) {
            if (Modifier.isPrivate(method.getModifiers())) continue;
            StringBuilder types = new StringBuilder();
            for (Class<?> type : method.getParameterTypes()) types.append(types.length() == 0 ? "" : ",").append(type);
            got.add(method.getReturnType() + " " + method.getName() + "(" + types + ")");
            DUE.is("1 public alone: " + method, method.getModifiers(), Modifier.PUBLIC);
        }
        DUE.same("1 the face", got.toString(), due.toString());
        DUE.is("1 one constructor", NineCarts.class.getDeclaredConstructors().length, 1);
        DUE.is("1 public, of nothing", NineCarts.class.getConstructors()[0].getParameterCount(), 0);
        DUE.is("1 public and final", NineCarts.class.getModifiers(), Modifier.PUBLIC | Modifier.FINAL);
        DUE.is("1 of nothing else", NineCarts.class.getSuperclass() == Object.class ? NineCarts.class.getInterfaces().length : 1, 0);
        DUE.same("1 without a package", NineCarts.class.getName(), "NineCarts");
    }

    private static void constants() throws IllegalAccessException {
        int open = 0;
        for (Field field : NineCarts.class.getDeclaredFields()) {
            if (Modifier.isPrivate(field.getModifiers())) continue;
            open++;
            DUE.is("1 " + field, field.getModifiers(), Modifier.PUBLIC | Modifier.STATIC | Modifier.FINAL);
            DUE.is("1 an int: " + field, field.getType() == int.class ? 1 : 0, 1);
            DUE.is("1 " + field, field.getInt(null), CONSTANTS.getOrDefault(field.getName(), 0));
        }
        DUE.is("1 constants alone", open, CONSTANTS.size());
    }

    /** No method that is not of the face bears the name of one that is. */
    private static void names() {
        Set<String> names = new TreeSet<>();
        for (String one : FACE) names.add(one.substring(one.indexOf(' ') + 1, one.indexOf('(')));
        List<Class<?>> classes = new ArrayList<>(List.of(NineCarts.class.getDeclaredClasses()));
        classes.add(NineCarts.class);
        for (Class<?> of : classes) {
            for (Method method : of.getDeclaredMethods()) {
                boolean other = of != NineCarts.class || Modifier.isPrivate(method.getModifiers());
                DUE.is("1 " + of + " " + method.getName(), other && names.contains(method.getName()) ? 1 : 0, 0);
            }
        }
    }

    /** In the source the calls stand in the document's order, each row of them below the line that the interface says. */
    private static void headings() throws IOException {
        StringBuilder got = new StringBuilder();
        Pattern told = Pattern.compile("^    (?:// (---- .*)|public (?:int|long) (\\w+)\\(.*)$");
        for (String line : Files.readAllLines(Path.of("src/main/java/NineCarts.java"))) {
            Matcher one = told.matcher(line);
            if (one.matches()) got.append(one.group(1) != null ? one.group(1) : one.group(2)).append('\n');
        }
        DUE.same("ahead of the calls", got.toString(), HEADINGS);
    }

    private static List<String> classes(CompilationUnitTree unit) {
        List<String> names = new ArrayList<>();
        ClassTree outer = (ClassTree) unit.getTypeDecls().get(0);
        names.add(outer.getSimpleName().toString());
        for (Tree member : outer.getMembers()) {
            if (member instanceof ClassTree inside) names.add(inside.getSimpleName().toString());
        }
        return names;
    }

    private static void source(CompilationUnitTree unit, Trees trees) {
        DUE.is("1 one class, no package", unit.getTypeDecls().size() == 1 && unit.getPackageName() == null ? 1 : 0, 1);
        List<String> own = classes(unit);
        DUE.is("11 classes: " + own, own.size() <= 12 ? 1 : 0, 1);
        RuleScanner scanner = new RuleScanner(DUE, trees, unit, own);
        scanner.scan(unit, null);
        DUE.is("methods were seen", scanner.methods() >= FACE.length + 1 ? 1 : 0, 1);
        DUE.is("loops were seen", scanner.loops() > 0 ? 1 : 0, 1);
    }

    /** Recursion is private and carries its depth; calls that are none go eight deep. */
    private static void calls(CompilationUnitTree unit, Trees trees) {
        CallGraph graph = new CallGraph(trees, unit);
        for (Element method : graph.methods()) {
            DUE.is("11 calls of " + method + ": " + graph.depth(method), graph.depth(method) <= 8 ? 1 : 0, 1);
            if (!graph.isRecursive(method)) continue;
            boolean carried = false;
            for (Element one : ((ExecutableElement) method).getParameters()) carried |= one.getSimpleName().contentEquals("depth");
            boolean hidden = method.getModifiers().contains(javax.lang.model.element.Modifier.PRIVATE);
            DUE.is("8 " + method, carried && hidden ? 1 : 0, 1);
        }
    }

    public static void main(String[] args) throws IOException, IllegalAccessException {
        face();
        constants();
        names();
        headings();
        JavaCompiler compiler = ToolProvider.getSystemJavaCompiler();
        try (StandardJavaFileManager files = compiler.getStandardFileManager(null, null, null)) {
            JavacTask task = (JavacTask) compiler.getTask(null, files, null, List.of("-proc:none", "--release", "17"), null,
                files.getJavaFileObjects(Path.of("src/main/java/NineCarts.java")));
            CompilationUnitTree unit = task.parse().iterator().next();
            task.analyze();
            source(unit, Trees.instance(task));
            calls(unit, Trees.instance(task));
        }
        DUE.end("RulesTest");
    }
}
