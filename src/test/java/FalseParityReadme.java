import java.lang.reflect.Method;
import java.lang.reflect.Modifier;
import java.net.URL;
import java.net.URLClassLoader;
import java.nio.file.Files;
import java.nio.file.Path;
import java.util.ArrayList;
import java.util.List;
import java.util.regex.Matcher;
import java.util.regex.Pattern;
import java.util.stream.Stream;
import javax.tools.JavaCompiler;
import javax.tools.ToolProvider;

/** README.md: its examples answer as they show when they are run, and it leaves out no call and no test. */
public final class FalseParityReadme extends Checks {
    private static final Pattern BLOCK = Pattern.compile("(?ms)^```java\n(.*?)^```$");
    private static final Pattern SHOWN = Pattern.compile("(x\\.\\w+\\([^)]*\\));\\s*// (-?\\d+)\\b.*");

    /** Asked by the example's own code, which is compiled here and so can't be known ahead. */
    public static void shown(String call, long got, long want) {
        due(call, got, want);
    }

    private static List<String> examples(String readme) {
        List<String> found = new ArrayList<>();
        Matcher m = BLOCK.matcher(readme);
        while (m.find()) {
            found.add(m.group(1));
        }
        return found;
    }

    /** The example with each shown answer compared; an answer that is not a number can't be, and is told. */
    private static String comparing(String example, String name) {
        StringBuilder code = new StringBuilder("public class " + name + " { public static void run() {\n");
        int answers = 0;
        for (String line : example.split("\n")) {
            Matcher m = SHOWN.matcher(line);
            if (m.matches()) {
                answers++;
                code.append("FalseParityReadme.shown(\"").append(m.group(1)).append("\", ");
                code.append(m.group(1)).append(", ").append(m.group(2)).append("L);\n");
                continue;
            }
            if (line.contains("//")) {
                tell("no answer to compare: " + line);
            }
            code.append(line).append('\n');
        }
        if (answers == 0) {
            tell("an example without an answer");
        }
        return code.append("} }\n").toString();
    }

    private static void runs(String example, String name) throws Exception {
        by("README.md, " + name);
        Path dir = Files.createDirectories(Path.of("build", "readme"));
        Path source = dir.resolve(name + ".java");
        Files.writeString(source, comparing(example, name));
        JavaCompiler compiler = ToolProvider.getSystemJavaCompiler();
        String known = System.getProperty("java.class.path");
        if (compiler == null || compiler.run(null, null, null, "-cp", known, "-d", dir.toString(), source.toString()) != 0) {
            tell("it does not compile");
            return;
        }
        try (URLClassLoader loader = new URLClassLoader(new URL[] {dir.toUri().toURL()})) {
            loader.loadClass(name).getMethod("run").invoke(null);
        }
    }

    private static void namesCalls(String readme) {
        by("README.md says how to use the class");
        for (Method m : FalseParity.class.getDeclaredMethods()) {
            if (Modifier.isPublic(m.getModifiers()) && !readme.contains("`" + m.getName() + "(")) {
                tell("it leaves out " + m.getName());
            }
        }
    }

    private static void namesTests(String readme) throws Exception {
        by("README.md says how to run its tests");
        try (Stream<Path> files = Files.list(Path.of("src/test/java"))) {
            for (Path file : (Iterable<Path>) files::iterator) {
                if (!readme.contains(file.getFileName().toString() + "`")) {
                    tell("it leaves out " + file.getFileName());
                }
            }
        }
        if (!readme.contains("\n.ci/run\n")) {
            tell("it leaves out .ci/run");
        }
    }

    public static void main(String[] args) throws Exception {
        String readme = Files.readString(Path.of("README.md"));
        List<String> examples = examples(readme);
        by("README.md");
        if (examples.isEmpty()) {
            tell("no example");
        }
        for (int i = 0; i < examples.size(); i++) {
            runs(examples.get(i), "Example" + i);
        }
        namesCalls(readme);
        namesTests(readme);
        end();
    }
}
