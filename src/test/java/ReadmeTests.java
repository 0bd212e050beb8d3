import java.io.IOException;
import java.net.URL;
import java.net.URLClassLoader;
import java.nio.file.Files;
import java.nio.file.Path;
import java.util.Comparator;
import java.util.List;
import java.util.regex.Matcher;
import java.util.regex.Pattern;
import java.util.stream.Stream;
import javax.tools.ToolProvider;

/** The example of README.md, found from the class's file (the first argument), is run: it answers what it tells. */
public final class ReadmeTests {
    private static final Pattern EXAMPLE = Pattern.compile("```java\n(.*?)```", Pattern.DOTALL);
    private static final Pattern TOLD = Pattern.compile("(x\\.\\w+\\(.*\\));\\s*// (-?\\d+): .*");
    private static int wrong = 0;
    private static int told = 0;

    /** The example calls it in place of the plain call. */
    public static void due(String call, long got, long want) {
        told++;
        if (got != want) {
            fail("README.md: " + call + " answered " + got + ", told is " + want);
        }
    }

    private static void fail(String what) {
        wrong++;
        System.out.println(what);
    }

    public static void main(String[] args) throws Exception {
        Path readme = Path.of(args[0]).toAbsolutePath().resolveSibling("../../../README.md");
        Matcher examples = EXAMPLE.matcher(Files.readString(readme));
        int calls = 0;
        while (examples.find()) {
            StringBuilder body = new StringBuilder();
            for (String line : examples.group(1).split("\n")) {
                Matcher call = TOLD.matcher(line);
                if (call.matches()) {
                    calls++;
                    body.append("ReadmeTests.due(\"").append(call.group(1)).append("\", ").append(call.group(1));
                    body.append(", ").append(call.group(2)).append("L);\n");
                } else {
                    body.append(line).append('\n');
                }
            }
            run(body.toString());
        }
        if (calls == 0 || told != calls) {
            fail("README.md tells " + calls + " answers, " + told + " were seen");
        }
        System.out.println(wrong == 0 ? told + " answers are as README.md tells" : wrong + " are not as README.md tells");
        if (wrong != 0) {
            System.exit(1);
        }
    }

    private static void run(String body) throws Exception {
        Path dir = Files.createTempDirectory("readme");
        try {
            Path file = dir.resolve("Example.java");
            Files.writeString(file, "public final class Example {\n    public static void run() {\n" + body + "    }\n}\n");
            int failed = ToolProvider.getSystemJavaCompiler().run(null, null, null, "-cp",
                System.getProperty("java.class.path"), "-d", dir.toString(), file.toString());
            if (failed != 0) {
                fail("README.md: the example does not compile");
                return;
            }
            try (URLClassLoader loader = new URLClassLoader(new URL[] {dir.toUri().toURL()})) {
                loader.loadClass("Example").getMethod("run").invoke(null);
            }
        } finally {
            remove(dir);
        }
    }

    private static void remove(Path dir) throws IOException {
        List<Path> all;
        try (Stream<Path> paths = Files.walk(dir)) {
            all = paths.sorted(Comparator.reverseOrder()).toList();
        }
        for (Path path : all) {
            Files.delete(path);
        }
    }
}
