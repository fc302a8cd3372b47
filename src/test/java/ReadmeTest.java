import java.io.IOException;
import java.io.InputStream;
import java.lang.reflect.InvocationTargetException;
import java.net.URL;
import java.net.URLClassLoader;
import java.nio.file.Files;
import java.nio.file.Path;
import java.util.ArrayList;
import java.util.List;
import java.util.Set;
import java.util.TreeSet;
import java.util.regex.Matcher;
import java.util.regex.Pattern;
import java.util.stream.Stream;
import javax.tools.ToolProvider;

/** README.md is so: its examples answer what stands behind them, its commands run, its tests are there. */
public final class ReadmeTest {
    private static final Due DUE = new Due();
    private static final Pattern ANSWERED = Pattern.compile("(x\\.(\\w+)\\(.*\\));\\s*// (-?\\d+)(:.*)?");

    private static List<String> blocks(String readme, String language) {
        List<String> blocks = new ArrayList<>();
        Matcher block = Pattern.compile("(?s)```" + language + "\n(.*?)```").matcher(readme);
        while (block.find()) blocks.add(block.group(1));
        return blocks;
    }

    /** A class that makes the calls of the examples, one behind another, and counts those that answer something else. */
    private static String example(List<String> blocks) {
        StringBuilder code = new StringBuilder("public final class Example {\n    public static int run() {\n        int wrong = 0;\n");
        int answered = 0;
        Set<String> names = new TreeSet<>();
        for (String line : String.join("", blocks).split("\n")) {
            Matcher call = ANSWERED.matcher(line);
            if (!call.matches()) {
                DUE.is("an answer stands behind: " + line, line.contains("//") || line.startsWith("x.") ? 0 : 1, 1);
                code.append(line).append('\n');
                continue;
            }
            answered++;
            names.add(call.group(2));
            code.append("if (").append(call.group(1)).append(" != ").append(call.group(3)).append("L) { wrong++; System.out.println(\"README.md: ")
                .append(line.replace("\\", "\\\\").replace("\"", "\\\"")).append("\"); }\n");
        }
        DUE.is("calls with answers: " + answered, answered >= 40 && answered <= 512 ? 1 : 0, 1);
        DUE.is("unlike calls: " + names, names.size() >= 25 ? 1 : 0, 1);
        return code.append("return wrong;\n    }\n}\n").toString();
    }

    private static void examples(String readme, Path out) throws IOException, ReflectiveOperationException {
        Path source = out.resolve("Example.java");
        Files.writeString(source, example(blocks(readme, "java")));
        int failed = ToolProvider.getSystemJavaCompiler().run(null, null, null, "-d", out.toString(), "-cp", System.getProperty("java.class.path"),
            source.toString());
        DUE.is("the examples compile", failed, 0);
        if (failed != 0) return;
        try (URLClassLoader loader = new URLClassLoader(new URL[] {out.toUri().toURL()})) {
            DUE.is("answers of the examples", (Integer) loader.loadClass("Example").getMethod("run").invoke(null), 0);
        } catch (InvocationTargetException e) {
            throw new IllegalStateException("an example threw", e.getCause());
        }
    }

    /** Each command runs from the project's folder, but writes to a folder of its own here; .ci/run is what runs this. */
    private static void commands(String readme, Path out) throws IOException, InterruptedException {
        int ran = 0;
        for (String block : blocks(readme, "sh")) {
            for (String line : block.split("\n")) {
                if (line.equals(".ci/run")) {
                    DUE.is(".ci/run may be run", Files.isExecutable(Path.of(".ci/run")) ? 1 : 0, 1);
                    continue;
                }
                List<String> words = new ArrayList<>(List.of(line.split(" +")));
                words.replaceAll(word -> word.equals("out") ? out.toString() : word);
                Process process = new ProcessBuilder(words).redirectErrorStream(true).start();
                String said;
                try (InputStream output = process.getInputStream()) {
                    said = new String(output.readAllBytes());
                }
                DUE.is(line + ": " + said, process.waitFor(), 0);
                ran++;
            }
        }
        DUE.is("commands ran", ran, 3);
        DUE.is("the class was compiled", Files.exists(out.resolve("NineCarts.class")) ? 1 : 0, 1);
    }

    /** The table names each test that there is, and none that is not. */
    private static void table(String readme) throws IOException {
        Set<String> named = new TreeSet<>();
        for (String line : readme.split("\n")) {
            if (!line.startsWith("| ")) continue;
            Matcher test = Pattern.compile("\\w+Test").matcher(line.split("\\|")[1]);
            while (test.find()) named.add(test.group());
        }
        Set<String> there = new TreeSet<>();
        try (Stream<Path> files = Files.list(Path.of("src/test/java"))) {
            files.map(file -> file.getFileName().toString()).filter(name -> name.endsWith("Test.java"))
                .forEach(name -> there.add(name.replace(".java", "")));
        }
        DUE.same("tests", named.toString(), there.toString());
    }

    /** Where it points to: the document, the rules, the class, the tests. */
    private static void places(String readme) {
        Matcher place = Pattern.compile("`((?:\\.\\./shared|src|\\.ci)[\\w/.]*)`").matcher(readme);
        int named = 0;
        while (place.find()) {
            DUE.is("there is " + place.group(1), Files.exists(Path.of(place.group(1))) ? 1 : 0, 1);
            named++;
        }
        DUE.is("places are named", named >= 5 ? 1 : 0, 1);
    }

    public static void main(String[] args) throws IOException, ReflectiveOperationException, InterruptedException {
        String readme = Files.readString(Path.of("README.md"));
        Path out = Files.createTempDirectory("readme");
        try {
            examples(readme, out);
            commands(readme, out);
        } finally {
            try (Stream<Path> files = Files.walk(out)) {
                for (Path file : files.sorted(java.util.Comparator.reverseOrder()).toList()) Files.delete(file);
            }
        }
        table(readme);
        places(readme);
        DUE.end("ReadmeTest");
    }
}
