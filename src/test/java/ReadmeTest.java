import java.io.ByteArrayOutputStream;
import java.io.IOException;
import java.io.PrintStream;
import java.lang.reflect.Method;
import java.lang.reflect.Modifier;
import java.net.URL;
import java.net.URLClassLoader;
import java.nio.charset.StandardCharsets;
import java.nio.file.Files;
import java.nio.file.Path;
import java.util.Comparator;
import java.util.List;
import java.util.regex.Matcher;
import java.util.regex.Pattern;
import java.util.stream.Stream;
import javax.tools.JavaCompiler;
import javax.tools.ToolProvider;

/** The example in README.md compiles and prints what README.md says, and README.md names each call and each test. */
public final class ReadmeTest {
    public static void main(String[] args) throws Exception {
        String readme = Files.readString(Path.of("README.md"));
        examplePrintsWhatIsTold(readme);
        callsAreNamed(readme);
        testsAreNamed(readme);
        Check.end();
    }

    private static void examplePrintsWhatIsTold(String readme) throws Exception {
        JavaCompiler compiler = ToolProvider.getSystemJavaCompiler();
        if (compiler == null) {
            System.out.println("this java has no compiler in it, so that the example can't be run");
            return;
        }
        String printed = printedBy(block(readme, "java"), compiler);
        boolean isAsTold = printed.equals(block(readme, "text"));
        if (!isAsTold) {
            System.out.println("the example prints:\n" + printed);
        }
        Check.due("the example prints what README.md says", isAsTold, true);
    }

    private static void callsAreNamed(String readme) {
        for (Method method : CorridorCells.class.getDeclaredMethods()) {
            if (Modifier.isPublic(method.getModifiers())) {
                Check.due(method.getName() + " is named", readme.contains("`" + method.getName() + "("), true);
            }
        }
    }

    private static void testsAreNamed(String readme) throws IOException {
        try (Stream<Path> files = Files.list(Path.of("src/test/java"))) {
            for (Path file : files.sorted().toList()) {
                String name = file.getFileName().toString().replace(".java", "");
                Check.due(name + " is named", readme.contains("`" + name + "`"), true);
            }
        }
    }

    /** The first block of a kind. */
    private static String block(String readme, String kind) {
        Matcher matcher = Pattern.compile("```" + kind + "\n(.*?)```", Pattern.DOTALL).matcher(readme);
        return matcher.find() ? matcher.group(1) : "";
    }

    private static String printedBy(String example, JavaCompiler compiler) throws Exception {
        Path folder = Files.createTempDirectory("readme");
        try {
            Path file = folder.resolve("Example.java");
            Files.writeString(file, "public class Example { public static void main(String[] a) {\n" + example + "}}\n");
            String classes = System.getProperty("java.class.path");
            int code = compiler.run(null, null, null, "-cp", classes,
                "-d", folder.toString(), file.toString());
            Check.due("javac of the example", code, 0);
            return code == 0 ? printedByMainOf(folder) : "";
        } finally {
            remove(folder);
        }
    }

    private static String printedByMainOf(Path folder) throws Exception {
        ByteArrayOutputStream bytes = new ByteArrayOutputStream();
        PrintStream console = System.out;
        try (URLClassLoader loader = new URLClassLoader(new URL[] {folder.toUri().toURL()})) {
            System.setOut(new PrintStream(bytes, true, StandardCharsets.UTF_8));
            loader.loadClass("Example").getMethod("main", String[].class).invoke(null, (Object) new String[0]);
        } finally {
            System.setOut(console);
        }
        return bytes.toString(StandardCharsets.UTF_8).replace(System.lineSeparator(), "\n");
    }

    private static void remove(Path folder) throws IOException {
        List<Path> all;
        try (Stream<Path> files = Files.walk(folder)) {
            all = files.sorted(Comparator.reverseOrder()).toList();
        }
        for (Path path : all) {
            Files.delete(path);
        }
    }
}
