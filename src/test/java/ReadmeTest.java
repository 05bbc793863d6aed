import java.io.IOException;
import java.lang.reflect.Method;
import java.lang.reflect.Modifier;
import java.net.URL;
import java.net.URLClassLoader;
import java.nio.file.Files;
import java.nio.file.Path;
import java.util.regex.Matcher;
import java.util.regex.Pattern;
import javax.tools.ToolProvider;

/** What README.md shows holds: its example answers what stands behind each call, and no call and no test is left out. */
public final class ReadmeTest {
    private static final Checks CHECKS = new Checks();
    private static final Path DIRECTORY = Path.of("build", "readme");
    private static final Pattern EXAMPLE = Pattern.compile("(?s)```java\n(.*?)```");
    private static final Pattern ANSWERED = Pattern.compile("(?m)^(hunt\\..*);\\s*// (-?[0-9.]+):.*$");

    public static void main(String[] args) throws Exception {
        String readme = Files.readString(Path.of("README.md"));
        example(readme);
        calls(readme);
        tests(readme);
        CHECKS.close("ReadmeTest");
    }

    private static void example(String readme) throws Exception {
        Matcher example = EXAMPLE.matcher(readme);
        CHECKS.dueTrue("README.md has an example", example.find());
        Matcher answered = ANSWERED.matcher(example.group(1));
        CHECKS.dueTrue("the example tells answers", answered.results().count() > 5);
        String checked = answered.replaceAll("due(\"$1\", $1, $2);");
        Path file = DIRECTORY.resolve("ReadmeExample.java");
        Files.createDirectories(DIRECTORY);
        Files.writeString(file, """
            public final class ReadmeExample {
                private static String wrong = "";
                private static void due(String call, double got, double want) {
                    wrong += got == want ? "" : call + " answers " + got + ", not " + want + "; ";
                }
                public static String run() {
                    %s
                    return wrong;
                }
            }
            """.formatted(checked));
        int compiled = ToolProvider.getSystemJavaCompiler().run(null, null, null,
            "-cp", System.getProperty("java.class.path"), "-d", DIRECTORY.toString(), file.toString());
        CHECKS.due("the example's compiler", compiled, 0);
        if (compiled == 0) {
            try (URLClassLoader loader = new URLClassLoader(new URL[] {DIRECTORY.toUri().toURL()})) {
                Object wrong = loader.loadClass("ReadmeExample").getMethod("run").invoke(null);
                CHECKS.dueTrue("the example answers as README.md says: " + wrong, wrong.equals(""));
            }
        }
    }

    private static void calls(String readme) {
        for (Method m : ColophonHunt.class.getDeclaredMethods()) {
            if (Modifier.isPublic(m.getModifiers())) {
                CHECKS.dueTrue("README.md tells of " + m.getName(), readme.contains("| `" + m.getName() + "("));
            }
        }
    }

    private static void tests(String readme) throws IOException {
        try (var files = Files.list(Path.of("src", "test", "java"))) {
            for (Path file : files.toList()) {
                String name = file.getFileName().toString().replace(".java", "");
                CHECKS.dueTrue("README.md tells of " + name, readme.contains("`" + name + "`"));
            }
        }
    }
}
