import java.io.ByteArrayOutputStream;
import java.io.PrintStream;
import java.lang.reflect.Method;
import java.lang.reflect.Modifier;
import java.net.URL;
import java.net.URLClassLoader;
import java.nio.file.Files;
import java.nio.file.Path;
import java.util.stream.Stream;
import javax.tools.ToolProvider;

/** README.md's example compiles and prints what README.md says, and its table has every call of the face. */
public final class ReadmeTest {
    private static final Check check = new Check("ReadmeTest");

    public static void main(String[] args) throws Exception {
        String readme = Files.readString(Path.of("README.md"));
        check.due("README's example", printed(block(readme, "java")), block(readme, "text"));
        for (Method method : SortWorks.class.getDeclaredMethods()) {
            if (Modifier.isPublic(method.getModifiers())) {
                check.due("README's table has " + method.getName(), inTable(readme, method.getName() + "("), true);
            }
        }
        for (String tested : testNames()) {
            check.due("README names " + tested, readme.contains("`" + tested + "`"), true);
        }
        check.finish();
    }

    private static String block(String readme, String language) {
        String from = "```" + language + "\n";
        int start = readme.indexOf(from) + from.length();
        return readme.substring(start, readme.indexOf("```\n", start));
    }

    private static boolean inTable(String readme, String call) {
        return readme.lines().anyMatch(line -> line.startsWith("| ") && line.contains("`" + call));
    }

    private static String[] testNames() throws Exception {
        try (Stream<Path> files = Files.list(Path.of("src/test/java"))) {
            return files.map(file -> file.getFileName().toString()).filter(name -> name.endsWith("Test.java"))
                .map(name -> name.substring(0, name.length() - ".java".length())).toArray(String[]::new);
        }
    }

    private static String printed(String program) throws Exception {
        Path directory = Files.createTempDirectory("readme");
        Path source = Files.writeString(directory.resolve("Example.java"), program);
        int failed = ToolProvider.getSystemJavaCompiler().run(null, null, null, "--release", "17",
            "-cp", System.getProperty("java.class.path"), "-d", directory.toString(), source.toString());
        check.due("compiling README's example", failed, 0);
        ByteArrayOutputStream bytes = new ByteArrayOutputStream();
        PrintStream former = System.out;
        System.setOut(new PrintStream(bytes, true));
        try (URLClassLoader loader = new URLClassLoader(new URL[] {directory.toUri().toURL()})) {
            loader.loadClass("Example").getMethod("main", String[].class).invoke(null, (Object) new String[0]);
        } finally {
            System.setOut(former);
            Files.deleteIfExists(source);
            Files.deleteIfExists(directory.resolve("Example.class"));
            Files.deleteIfExists(directory);
        }
        return bytes.toString();
    }
}
