import java.io.ByteArrayOutputStream;
import java.io.IOException;
import java.io.PrintStream;
import java.lang.reflect.Method;
import java.lang.reflect.Modifier;
import java.net.URL;
import java.net.URLClassLoader;
import java.nio.charset.StandardCharsets;
import java.nio.file.Files;
import java.nio.file.Path;
import java.util.Comparator;
import java.util.List;
import java.util.stream.Stream;
import javax.tools.ToolProvider;

/** README.md tells what is so: its program prints what it says, and no call and no test is missing on it. */
public final class ReadmeTest {

    private static final Path TESTS = Path.of("src/test/java");

    public static void main(String[] args) throws Exception {
        String page = Files.readString(Path.of("README.md"));
        programPrintsWhatItSays(page);
        everyCallIsTold(page);
        everyTestIsTold(page);
        everyFileIsThere(page);
        Check.close("ReadmeTest");
    }

    private static String block(String page, String kind) {
        String[] parts = page.split("```" + kind + "\n");
        Check.same("blocks of " + kind, parts.length, 2);
        return parts.length == 2 ? parts[1].split("```")[0] : "";
    }

    private static void programPrintsWhatItSays(String page) throws Exception {
        Path folder = Files.createTempDirectory("readme");
        try {
            Path file = folder.resolve("Fill.java");
            Files.writeString(file, block(page, "java"));
            int end = ToolProvider.getSystemJavaCompiler().run(null, null, null,
                    "-d", folder.toString(), Source.FILE.toString(), file.toString());
            Check.same("javac of the program", end, 0);
            Check.same("the program", end == 0 ? printed(folder) : "", block(page, "text"));
        } finally {
            remove(folder);
        }
    }

    private static String printed(Path folder) throws Exception {
        ByteArrayOutputStream bytes = new ByteArrayOutputStream();
        PrintStream screen = System.out;
        try (URLClassLoader loader = new URLClassLoader(new URL[] {folder.toUri().toURL()})) {
            Method main = loader.loadClass("Fill").getMethod("main", String[].class);
            System.setOut(new PrintStream(bytes, true, StandardCharsets.UTF_8));
            main.invoke(null, (Object) new String[0]);
        } finally {
            System.setOut(screen);
        }
        return bytes.toString(StandardCharsets.UTF_8).replace("\r\n", "\n");
    }

    private static void remove(Path folder) throws IOException {
        try (Stream<Path> all = Files.walk(folder)) {
            for (Path path : all.sorted(Comparator.reverseOrder()).toList()) {
                Files.delete(path);
            }
        }
    }

    private static void everyCallIsTold(String page) {
        for (Method method : PumpOaths.class.getDeclaredMethods()) {
            if (Modifier.isPublic(method.getModifiers())) {
                Check.holds(method.getName() + " is told", page.contains("`" + method.getName() + "("));
            }
        }
    }

    private static void everyTestIsTold(String page) throws IOException {
        try (Stream<Path> files = Files.list(TESTS)) {
            List<String> names = files.map(file -> file.getFileName().toString().replace(".java", "")).toList();
            for (String name : names) {
                boolean isTest = name.endsWith("Test");
                Check.holds(name + " is told", page.contains(isTest ? "| " + name + " |" : "`" + name + "`"));
            }
        }
    }

    private static void everyFileIsThere(String page) {
        for (String path : new String[] {"../shared/DOC.md", "../shared/LANGUAGE.md", "../shared/tests", ".ci/run",
            "src/main/java/PumpOaths.java", "src/test/java", "NOTES.md"}) {
            Check.holds(path + " is told", page.contains(path));
            Check.holds(path + " is there", Files.exists(Path.of(path)));
        }
    }
}
