import java.io.IOException;
import java.lang.reflect.Method;
import java.lang.reflect.Modifier;
import java.net.URL;
import java.net.URLClassLoader;
import java.nio.file.Files;
import java.nio.file.Path;
import java.util.Arrays;
import java.util.Comparator;
import java.util.List;
import java.util.stream.Stream;
import javax.tools.ToolProvider;

/** What README.md says of the use of the class is so: its example runs, and it names every call. */
public final class ReadmeTest {
    private static final Checks CHECKS = new Checks();

    public static void main(String[] args) throws IOException, ReflectiveOperationException {
        String readme = Files.readString(Path.of("README.md"));
        exampleHolds(readme);
        everyCallIsNamed(readme);
        CHECKS.yes("README.md says how to run the tests", readme.contains(".ci/run"));
        CHECKS.end("ReadmeTest");
    }

    private static void exampleHolds(String readme) throws IOException, ReflectiveOperationException {
        Path work = Files.createTempDirectory("readme");
        try {
            Path file = work.resolve("Example.java");
            Files.writeString(file, "public final class Example {\n    public static boolean seal() {\n"
                + example(readme) + "        return good;\n    }\n}\n");
            int code = ToolProvider.getSystemJavaCompiler().run(null, null, null, "--release", "17",
                "-cp", System.getProperty("java.class.path"), "-d", work.toString(), file.toString());
            CHECKS.due("the example compiles", 0, () -> code);
            if (code == 0) {
                boolean good = answerOf(work);
                CHECKS.yes("the seal of the example holds", good);
            }
        } finally {
            delete(work);
        }
    }

    private static String example(String readme) {
        String fence = "```java\n";
        int start = readme.indexOf(fence) + fence.length();
        return readme.substring(start, readme.indexOf("```", start));
    }

    private static boolean answerOf(Path classes) throws IOException, ReflectiveOperationException {
        try (URLClassLoader loader = new URLClassLoader(new URL[] {classes.toUri().toURL()})) {
            return (boolean) loader.loadClass("Example").getMethod("seal").invoke(null);
        }
    }

    private static void delete(Path directory) throws IOException {
        List<Path> inside;
        try (Stream<Path> walk = Files.walk(directory)) {
            inside = walk.sorted(Comparator.reverseOrder()).toList();
        }
        for (Path path : inside) {
            Files.delete(path);
        }
    }

    private static void everyCallIsNamed(String readme) {
        List<String> rows = Arrays.stream(readme.split("\n")).filter(line -> line.startsWith("| `")).toList();
        CHECKS.yes("README.md has the constructor", has(rows, "new ThresholdSeal"));
        for (Method method : ThresholdSeal.class.getDeclaredMethods()) {
            if (Modifier.isPublic(method.getModifiers())) {
                CHECKS.yes("README.md has " + method.getName(), has(rows, method.getName()));
            }
        }
    }

    private static boolean has(List<String> rows, String name) {
        return rows.stream().anyMatch(row -> row.startsWith("| `" + name + "("));
    }
}
