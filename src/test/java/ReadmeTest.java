import java.io.IOException;
import java.net.URL;
import java.net.URLClassLoader;
import java.nio.file.Files;
import java.nio.file.Path;
import java.util.List;
import java.util.regex.Matcher;
import java.util.regex.Pattern;
import javax.tools.JavaCompiler;
import javax.tools.ToolProvider;

/**
 * The example of README.md, as it stands there: it compiles, and each call answers the number that
 * stands behind it. Run it in the folder of README.md.
 */
public final class ReadmeTest {
    private static final Pattern CALL =
            Pattern.compile("(?:int (\\w+) = )?(desk\\.\\w+\\(.*\\));\\s*// (-?\\d+)(?::.*)?");

    private static int wrong = 0;
    private static int checked = 0;

    public static void main(String[] args) throws Exception {
        List<String> readme = Files.readAllLines(Path.of("README.md"));
        StringBuilder body = new StringBuilder();
        int calls = 0;
        boolean inside = false;
        for (String line : readme) {
            if (line.startsWith("```")) {
                inside = line.equals("```java");
            } else if (inside && !line.isBlank()) {
                body.append(checking(line)).append('\n');
                calls += line.startsWith("SieveDesk desk = ") ? 0 : 1;
            }
        }
        run(body.toString());
        due("the calls of the example that were looked at", checked, calls);
        due("an example without calls", calls == 0 ? 1 : 0, 0);
        System.out.println(wrong == 0 ? "all answers are as due" : wrong + " answers are not as due");
        if (wrong != 0) {
            System.exit(1);
        }
    }

    /** The example calls it, so it is public. */
    public static void dueInExample(String call, long got, long want) {
        checked++;
        due(call, got, want);
    }

    private static void due(String call, long got, long want) {
        if (got != want) {
            wrong++;
            System.out.println("README.md: " + call + " answered " + got + ", due is " + want);
        }
    }

    /** A line of the example, with a look at its answer; a line that tells no answer stays. */
    private static String checking(String line) {
        Matcher call = CALL.matcher(line);
        if (!call.matches()) {
            return line;
        }
        String look = "ReadmeTest.dueInExample(\"" + call.group(2) + "\", ";
        if (call.group(1) == null) {
            return look + call.group(2) + ", " + call.group(3) + "L);";
        }
        return "int " + call.group(1) + " = " + call.group(2) + "; "
                + look + call.group(1) + ", " + call.group(3) + "L);";
    }

    private static void run(String body) throws Exception {
        Path folder = Files.createTempDirectory("readme");
        Path source = folder.resolve("ReadmeExample.java");
        Path compiled = folder.resolve("ReadmeExample.class");
        try {
            Files.writeString(source, "public final class ReadmeExample {\n"
                    + "public static void main(String[] args) {\n" + body + "}\n}\n");
            if (compiles(source)) {
                runCompiled(folder);
            } else {
                due("the example as a program that does not compile", 1, 0);
            }
        } finally {
            Files.deleteIfExists(compiled);
            Files.deleteIfExists(source);
            Files.deleteIfExists(folder);
        }
    }

    private static boolean compiles(Path source) {
        JavaCompiler compiler = ToolProvider.getSystemJavaCompiler();
        return compiler.run(null, null, null, "-encoding", "UTF-8",
                "-cp", System.getProperty("java.class.path"), source.toString()) == 0;
    }

    private static void runCompiled(Path folder) throws IOException, ReflectiveOperationException {
        URL[] where = {folder.toUri().toURL()};
        try (URLClassLoader loader = new URLClassLoader(where, ReadmeTest.class.getClassLoader())) {
            loader.loadClass("ReadmeExample").getMethod("main", String[].class)
                    .invoke(null, (Object) new String[0]);
        }
    }
}
