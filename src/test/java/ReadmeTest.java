import java.io.IOException;
import java.net.URL;
import java.net.URLClassLoader;
import java.nio.file.Files;
import java.nio.file.Path;
import java.util.Comparator;
import java.util.List;
import java.util.regex.Matcher;
import java.util.regex.Pattern;
import java.util.stream.Stream;
import javax.tools.ToolProvider;

/** The Java lines of README.md, compiled and run: each call answers what stands behind it. */
public final class ReadmeTest {
    private static final Check CHECK = new Check("ReadmeTest");
    private static final String THROWS = "throws NoSuchElementException";
    private static final Pattern CALL = Pattern.compile("(x\\.\\w+\\(.*\\)); +// (-?\\d+|true|false|" + THROWS + ")(:.*)?");

    public static void main(String[] args) throws Exception {
        Path made = Files.createTempDirectory("readme");
        try {
            runs(made, program(Files.readAllLines(Path.of("README.md"))));
        } finally {
            removes(made);
        }
        CHECK.ends();
    }

    /** Called by the lines of README.md. */
    public static void answers(String call, String got, String due) {
        CHECK.isTrue("README.md: " + call + " answered " + got + ", due is " + due, got.equals(due));
    }

    private static String program(List<String> lines) {
        StringBuilder calls = new StringBuilder();
        StringBuilder methods = new StringBuilder();
        boolean java = false;
        boolean method = false;
        for (String line : lines) {
            if (line.startsWith("```")) {
                java = line.equals("```java");
                method = false;
            } else if (java) {
                method |= line.startsWith("static ");
                (method ? methods : calls).append(method ? line : asked(line)).append('\n');
            }
        }
        return "public final class Readme {\n" + methods + "public static void runs() {\n" + calls + "}\n}\n";
    }

    private static String asked(String line) {
        Matcher call = CALL.matcher(line);
        if (!call.matches()) {
            CHECK.isTrue("README.md tells an answer of: " + line, line.startsWith("WaxReign x = ") || line.startsWith("tape(x, "));
            return line;
        }
        String asks = "String got; try { got = \"\" + " + call.group(1) + "; } catch (java.util.NoSuchElementException e) { got = \""
            + THROWS + "\"; }";
        return "{ " + asks + " ReadmeTest.answers(\"" + call.group(1) + "\", got, \"" + call.group(2) + "\"); }";
    }

    private static void runs(Path made, String program) throws Exception {
        Path source = Files.writeString(made.resolve("Readme.java"), program);
        int failed = ToolProvider.getSystemJavaCompiler().run(null, null, null, "-nowarn", "-proc:none", "-cp",
            System.getProperty("java.class.path"), "-d", made.toString(), source.toString());
        CHECK.same("README.md compiles", failed, 0);
        if (failed == 0) {
            try (URLClassLoader loader = new URLClassLoader(new URL[] {made.toUri().toURL()})) {
                loader.loadClass("Readme").getMethod("runs").invoke(null);
            }
        }
    }

    private static void removes(Path made) throws IOException {
        try (Stream<Path> files = Files.walk(made)) {
            for (Path file : files.sorted(Comparator.reverseOrder()).toList()) {
                Files.delete(file);
            }
        }
    }
}
