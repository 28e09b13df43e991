import java.io.ByteArrayOutputStream;
import java.io.IOException;
import java.io.PrintStream;
import java.lang.reflect.Method;
import java.lang.reflect.Modifier;
import java.net.URL;
import java.net.URLClassLoader;
import java.nio.charset.StandardCharsets;
import java.nio.file.Files;
import java.nio.file.Path;
import java.util.stream.Stream;
import javax.tools.ToolProvider;

/** README.md: its example compiles, runs and prints what the page says; every call has its row, every test its place. */
public final class ReadmeTest {
    public static void main(String[] args) throws IOException, ReflectiveOperationException {
        String page = Files.readString(Path.of("README.md"));
        example(block(page, "java"), block(page, "text"));
        calls(page);
        tests(page);
        Kit.finish();
    }

    /** What stands between the page's fence of that kind and the next one. */
    private static String block(String page, String kind) {
        String fence = "\n```" + kind + "\n";
        int from = page.indexOf(fence);
        Kit.due("there is one block of " + kind, from >= 0 && page.indexOf(fence, from + 1) < 0, true);
        return from < 0 ? "" : page.substring(from + fence.length(), page.indexOf("\n```\n", from + fence.length()) + 1);
    }

    private static void example(String source, String printed) throws IOException, ReflectiveOperationException {
        Path work = Files.createTempDirectory("readme");
        Path file = work.resolve("Visit.java");
        try {
            Files.writeString(file, source);
            int code = ToolProvider.getSystemJavaCompiler().run(null, null, null, "-Xlint:all", "-Werror", "-encoding", "UTF-8",
                "-cp", System.getProperty("java.class.path"), "-d", work.toString(), file.toString());
            Kit.due("javac of the example", code, 0);
            if (code == 0) {
                Kit.same("the example", Kit.ascii(run(work)), Kit.ascii(printed));
            }
        } finally {
            Files.deleteIfExists(work.resolve("Visit.class"));
            Files.deleteIfExists(file);
            Files.deleteIfExists(work);
        }
    }

    private static String run(Path work) throws IOException, ReflectiveOperationException {
        PrintStream before = System.out;
        ByteArrayOutputStream printed = new ByteArrayOutputStream();
        try (URLClassLoader loader = new URLClassLoader(new URL[] {work.toUri().toURL()});
             PrintStream to = new PrintStream(printed, true, StandardCharsets.UTF_8)) {
            System.setOut(to);
            loader.loadClass("Visit").getMethod("main", String[].class).invoke(null, (Object) new String[0]);
        } finally {
            System.setOut(before);
        }
        return printed.toString(StandardCharsets.UTF_8).replace(System.lineSeparator(), "\n");
    }

    private static void calls(String page) {
        for (Method method : RealmHouse.class.getDeclaredMethods()) {
            if (Modifier.isPublic(method.getModifiers())) {
                int from = page.indexOf("\n| `" + method.getName() + "(");
                Kit.due(method.getName() + " has its row", from >= 0, true);
                if (from >= 0) {
                    String told = page.substring(page.indexOf('(', from) + 1, page.indexOf(')', from));
                    int count = told.isEmpty() ? 0 : told.split(",").length;
                    Kit.due(method.getName() + "'s parameters", count, method.getParameterCount());
                }
            }
        }
    }

    private static void tests(String page) throws IOException {
        try (Stream<Path> files = Files.list(Path.of("src/test/java"))) {
            for (Path file : files.sorted().toList()) {
                String name = file.getFileName().toString().replace(".java", "");
                Kit.due(name + " stands on the page", page.contains("`" + name), true);
            }
        }
    }
}
