import java.io.ByteArrayOutputStream;
import java.io.PrintStream;
import java.lang.reflect.Method;
import java.lang.reflect.Modifier;
import java.net.URL;
import java.net.URLClassLoader;
import java.nio.file.Files;
import java.nio.file.Path;
import java.util.ArrayList;
import java.util.List;
import javax.tools.ToolProvider;

/** README.md: its example compiles beside the class and prints what it says, and each call of the class is named. */
public final class ReadmeTest {
    private static final Path WORK = Path.of("build", "readme");
    private static final String PRINTS = "System.out.println(";

    public static void main(String[] args) throws Exception {
        String readme = Files.readString(Path.of("README.md"));
        String example = example(readme);
        same(printed(example), due(example));
        callsAreNamed(readme);
        Check.same("README.md names .ci/run", readme.contains(".ci/run"), true);
        Check.end();
    }

    private static String example(String readme) {
        int start = readme.indexOf("```java\n");
        int end = readme.indexOf("```\n", start + 1);
        if (start < 0 || end < 0) {
            Check.report("README.md has no example");
            return "";
        }
        return readme.substring(start + "```java\n".length(), end);
    }

    /** What stands behind the mark of a comment on each line that prints. */
    private static List<String> due(String example) {
        List<String> lines = new ArrayList<>();
        for (String line : example.split("\n")) {
            if (line.contains(PRINTS)) {
                lines.add(line.substring(line.indexOf("//") + 2).trim());
            }
        }
        return lines;
    }

    private static List<String> printed(String example) throws Exception {
        Files.createDirectories(WORK);
        Path file = WORK.resolve("Example.java");
        Files.writeString(file, "public class Example { public static void main(String[] args) {\n" + example + "} }\n");
        int failed = ToolProvider.getSystemJavaCompiler().run(null, null, null, "-d", WORK.toString(),
                "src/main/java/Granary.java", file.toString());
        if (failed != 0) {
            Check.report("the example of README.md does not compile");
            return List.of();
        }
        return run();
    }

    private static List<String> run() throws Exception {
        PrintStream screen = System.out;
        ByteArrayOutputStream told = new ByteArrayOutputStream();
        // No parent but the library's own, so that the class runs as it was compiled with the example.
        ClassLoader library = ClassLoader.getPlatformClassLoader();
        try (URLClassLoader loader = new URLClassLoader(new URL[] {WORK.toUri().toURL()}, library)) {
            System.setOut(new PrintStream(told, true));
            loader.loadClass("Example").getMethod("main", String[].class).invoke(null, (Object) new String[0]);
        } finally {
            System.setOut(screen);
        }
        return told.toString().lines().toList();
    }

    private static void same(List<String> got, List<String> due) {
        Check.same("the lines that README.md prints", got.size(), due.size());
        Check.same("README.md prints some lines", due.isEmpty(), false);
        for (int line = 0; line < Math.min(got.size(), due.size()); line++) {
            if (!got.get(line).equals(due.get(line))) {
                Check.report("README.md, line " + line + ", printed " + got.get(line) + ", due is " + due.get(line));
            }
        }
    }

    private static void callsAreNamed(String readme) {
        for (Method method : Granary.class.getDeclaredMethods()) {
            if (Modifier.isPublic(method.getModifiers())) {
                Check.same("README.md names " + method.getName(), readme.contains("`" + method.getName() + "`"), true);
            }
        }
    }
}
