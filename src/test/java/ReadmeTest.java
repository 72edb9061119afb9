import java.io.File;
import java.lang.reflect.Method;
import java.lang.reflect.Modifier;
import java.net.URL;
import java.net.URLClassLoader;
import java.nio.file.Files;
import java.nio.file.Path;
import java.util.List;

/** README.md: its example can be compiled and answers what it says, and it names each call and each test. */
public final class ReadmeTest {
    private static final Path README = Path.of("README.md");
    private static final String FENCE = "```";

    public static void main(String[] args) throws Exception {
        String text = Files.readString(README);
        example(text);
        calls(text);
        tests(text);
        Check.end();
    }

    private static void example(String text) throws Exception {
        int start = text.indexOf(FENCE + "java\n");
        int end = text.indexOf(FENCE, start + FENCE.length());
        Check.same("an example is there", true, start >= 0 && end > start);
        Object[] answers = run(text.substring(start + FENCE.length() + "java\n".length(), end));
        Check.same("the level, the one that shines, the load", "[20.0, 1, 100.0]", List.of(answers).toString());
    }

    /** Compiled by the javac that .ci/run takes, into the directory that holds this test's classes. */
    private static Object[] run(String lines) throws Exception {
        String classes = System.getProperty("java.class.path");
        Path room = Files.createDirectories(Path.of(classes, "example"));
        Path source = room.resolve("Example.java");
        Files.writeString(source, "public final class Example {\n    public static Object[] answers() {\n" + lines
                + "return new Object[] {level, shining, load};\n    }\n}\n");
        Process javac = new ProcessBuilder("javac", "-cp", classes, "-d", room.toString(), source.toString())
                .inheritIO().start();
        Check.same("the example can be compiled", 0, javac.waitFor());
        try (URLClassLoader loader = new URLClassLoader(new URL[] {room.toUri().toURL()})) {
            return (Object[]) loader.loadClass("Example").getMethod("answers").invoke(null);
        }
    }

    private static void calls(String text) {
        for (Method method : GelBook.class.getDeclaredMethods()) {
            if (Modifier.isPublic(method.getModifiers())) {
                Check.same("a row tells of " + method.getName(), true, text.contains("| `" + method.getName() + "("));
            }
        }
    }

    private static void tests(String text) {
        Check.same("how the tests are run", true, text.contains("    .ci/run\n"));
        for (File file : new File("src/test/java").listFiles()) {
            String name = file.getName().replace(".java", "");
            if (name.endsWith("Test")) {
                Check.same(name + " is named", true, text.contains("`" + name + "`"));
            }
        }
    }
}
