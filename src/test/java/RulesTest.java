import java.io.IOException;
import java.lang.reflect.Field;
import java.lang.reflect.Method;
import java.lang.reflect.Modifier;
import java.nio.file.Files;
import java.nio.file.Path;
import java.util.ArrayList;
import java.util.List;
import java.util.Set;
import java.util.TreeSet;
import java.util.regex.Matcher;
import java.util.regex.Pattern;

/** What of LANGUAGE.md can be seen by a machine, by the number of its rule. */
public final class RulesTest {
    private static final Due DUE = new Due();
    private static final String[] FACE = {
        "int village(int,int)", "int mend(int,int,int)", "int of(int,int)", "int mix(int,int,int)",
        "int mixes(int,int,int)", "int feed(int)", "int law()", "int won(int,int)", "int score(int,int)",
        "long mean(int)", "int best(int)", "long line(int,int,int)", "long spy(int,int)", "long broke(int,int)",
        "int beaten(int,int)", "int safest(int,int)", "int ring(int)", "int rest(int)", "int sure(int)", "int most(int)",
        "int fewest(int)", "int year(int,int)", "int years(int)", "int image()", "int back()", "int undo()", "int redo()",
        "int body(int)", "int act(int,int,int)", "int trace(int)", "int keep(int,int)", "int row(int,int,int)",
        "int put(int,int,long)", "long element(int,int)", "int shift(int,int,int,int,int)", "int taken(int,int)",
        "int count(int)"};

    private static void face() {
        Set<String> due = new TreeSet<>(List.of(FACE));
        Set<String> got = new TreeSet<>();
        Set<String> names = new TreeSet<>();
        for (Method method : NineCarts.class.getDeclaredMethods()) {
            if (Modifier.isPrivate(method.getModifiers())) continue;
            StringBuilder types = new StringBuilder();
            for (Class<?> type : method.getParameterTypes()) types.append(types.length() == 0 ? "" : ",").append(type);
            got.add(method.getReturnType() + " " + method.getName() + "(" + types + ")");
            names.add(method.getName());
        }
        if (!got.equals(due)) System.out.println("1: the face is " + got);
        DUE.is("1 the face", got.equals(due) ? 1 : 0, 1);
        DUE.is("1 one constructor", NineCarts.class.getDeclaredConstructors().length, 1);
        DUE.is("1 final", Modifier.isFinal(NineCarts.class.getModifiers()) ? 1 : 0, 1);
        for (Class<?> of : classes()) {
            for (Method method : of.getDeclaredMethods()) {
                boolean twice = of != NineCarts.class || Modifier.isPrivate(method.getModifiers());
                DUE.is("1 " + of + " " + method.getName(), twice && names.contains(method.getName()) ? 1 : 0, 0);
                DUE.is("11 parameters of " + method, method.getParameterCount() <= 7 ? 1 : 0, 1);
            }
        }
        Set<String> open = new TreeSet<>();
        for (Field field : NineCarts.class.getDeclaredFields()) {
            if (!Modifier.isPrivate(field.getModifiers())) open.add(field.getName());
        }
        DUE.is("1 constants alone: " + open, open.equals(Set.of("BAD", "NOT", "FULL", "STATE", "VOID")) ? 1 : 0, 1);
    }

    private static List<Class<?>> classes() {
        List<Class<?>> classes = new ArrayList<>(List.of(NineCarts.class.getDeclaredClasses()));
        classes.add(NineCarts.class);
        return classes;
    }

    private static void shapes() {
        DUE.is("11 classes", classes().size() <= 12 ? 1 : 0, 1);
        for (Class<?> of : classes()) {
            int fields = 0;
            for (Field field : of.getDeclaredFields()) {
                boolean isStatic = Modifier.isStatic(field.getModifiers());
                if (!isStatic) fields++;
                DUE.is("5 " + field, isStatic && !Modifier.isFinal(field.getModifiers()) ? 1 : 0, 0);
            }
            DUE.is("11 fields of " + of, fields <= 20 ? 1 : 0, 1);
            boolean inside = of != NineCarts.class;
            DUE.is("2 " + of, inside && !Modifier.isStatic(of.getModifiers()) ? 1 : 0, 0);
        }
    }

    private static void words(String code) {
        Pattern ruled = Pattern.compile("\\b(throw|throws|try|catch|synchronized|assert|float|double|String|Object|native"
            + "|volatile|transient|yield|var|System\\.(?!arraycopy)\\w+|\\w*Exact|equals|hashCode|toString|package|goto)\\b|->|::|@");
        Matcher found = ruled.matcher(code);
        while (found.find()) DUE.is("6 or 4: " + found.group(), 1, 0);
        Matcher imported = Pattern.compile("import ([\\w.]+);").matcher(code);
        while (imported.find()) DUE.is("4 " + imported.group(1), imported.group(1).equals("java.util.Arrays") ? 1 : 0, 1);
        Matcher library = Pattern.compile("\\b(Arrays|Math|Integer|Long)\\.(\\w+)").matcher(code);
        Set<String> known = Set.of("fill", "max", "min", "abs", "MIN_VALUE");
        while (library.find()) DUE.is("4 " + library.group(), known.contains(library.group(2)) ? 1 : 0, 1);
        Matcher endless = Pattern.compile("while \\(true\\)|for \\(;;").matcher(code);
        while (endless.find()) DUE.is("9 " + endless.group(), 1, 0);
    }

    /** Methods by their indent: from a line that opens one to the } of the same indent. */
    private static void lengths(List<String> lines) {
        Pattern opens = Pattern.compile("^( {4}| {8})(?!if|for|while|switch)\\w[\\w<>\\[\\] ]*\\([^;=]*\\) \\{$");
        int methods = 0;
        for (int i = 0; i < lines.size(); i++) {
            Matcher head = opens.matcher(lines.get(i));
            if (!head.find()) continue;
            int end = i;
            while (!lines.get(end).equals(head.group(1) + "}")) end++;
            methods++;
            DUE.is("11 lines of " + lines.get(i).trim(), end - i < 60 ? 1 : 0, 1);
        }
        DUE.is("11 methods seen", methods > 100 ? 1 : 0, 1);
    }

    public static void main(String[] args) throws IOException {
        Path source = Path.of("src/main/java/NineCarts.java");
        List<String> lines = Files.readAllLines(source);
        String code = String.join("\n", lines).replaceAll("(?s)/\\*.*?\\*/", "").replaceAll("//[^\n]*", "");
        face();
        shapes();
        words(code);
        lengths(lines);
        for (int i = 0; i < code.length(); i++) {
            if (code.charAt(i) > 127) DUE.is("4 a sign above 127", code.charAt(i), 0);
        }
        DUE.end("RulesTest");
    }
}
