import java.io.File;
import java.io.IOException;
import java.lang.reflect.Method;
import java.lang.reflect.Modifier;
import java.net.URL;
import java.net.URLClassLoader;
import java.nio.file.Files;
import java.nio.file.Path;
import javax.tools.ToolProvider;

/** That README.md says what is so; it is run from the directory in which README.md stands. */
final class ReadmeTest {
    private ReadmeTest() {
    }

    public static void main(String[] args) throws Exception {
        String readme = Files.readString(Path.of("README.md"));
        Check.same("bits of the example", runExample(exampleIn(readme)), 1 << 5);
        everyCallIsTold(readme);
        everyTestIsTold(readme);
        Check.end();
    }

    private static String exampleIn(String readme) {
        int start = readme.indexOf("```java\n");
        int end = readme.indexOf("```\n", start + 1);
        Check.yes("there is an example", start >= 0 && end > start);
        return readme.substring(start + "```java\n".length(), end);
    }

    private static int runExample(String example) throws Exception {
        Path place = Files.createTempDirectory("readme");
        Path source = place.resolve("Example.java");
        Files.writeString(source, "public final class Example {\n"
                + "public static int run() {\n" + example + "return bits;\n}\n}\n");
        int failure = ToolProvider.getSystemJavaCompiler().run(null, null, null,
                "-cp", System.getProperty("java.class.path"), "-d", place.toString(),
                source.toString());
        Check.same("javac of the example", failure, 0);
        int bits = failure == 0 ? answerOf(place) : 0;
        remove(place);
        return bits;
    }

    private static int answerOf(Path place) throws Exception {
        URL[] classes = {place.toUri().toURL()};
        try (URLClassLoader loader = new URLClassLoader(classes)) {
            return (int) loader.loadClass("Example").getMethod("run").invoke(null);
        }
    }

    private static void remove(Path place) throws IOException {
        for (File file : place.toFile().listFiles()) {
            Files.delete(file.toPath());
        }
        Files.delete(place);
    }

    private static void everyCallIsTold(String readme) {
        for (Method method : BitNet.class.getDeclaredMethods()) {
            if (Modifier.isPublic(method.getModifiers())) {
                Check.yes(method.getName() + " is in README.md",
                        readme.contains("| `" + method.getName() + "("));
            }
        }
    }

    private static void everyTestIsTold(String readme) {
        for (String file : new File("src/test/java").list()) {
            if (file.endsWith(".java")) {
                String name = file.substring(0, file.length() - ".java".length());
                Check.yes(name + " is in README.md", readme.contains("`" + name + "`"));
            }
        }
    }
}
