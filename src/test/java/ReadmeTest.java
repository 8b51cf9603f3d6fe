import java.io.ByteArrayOutputStream;
import java.io.IOException;
import java.io.PrintStream;
import java.lang.reflect.Method;
import java.lang.reflect.Modifier;
import java.net.URL;
import java.net.URLClassLoader;
import java.nio.charset.StandardCharsets;
import java.nio.file.Files;
import java.nio.file.Path;
import javax.tools.JavaCompiler;
import javax.tools.ToolProvider;

/** The program in README.md compiles and prints what README.md says, and each call of the face is named there. */
final class ReadmeTest {
    private static final Path BUILD = Path.of("build", "readme");
    private static final Check check = new Check();

    public static void main(String[] args) throws IOException, ReflectiveOperationException {
        check.title("README.md");
        String readme = Files.readString(Path.of("README.md"), StandardCharsets.UTF_8);
        check.same("the program", block(readme, "text"), outputOf("Evening", block(readme, "java")));
        for (Method method : DanceHall.class.getDeclaredMethods()) {
            if (Modifier.isPublic(method.getModifiers())) {
                check.holds(method.getName() + " is told", readme.contains("\n| `" + method.getName() + "("));
            }
        }
        check.end();
    }

    /** The first block of this kind. */
    private static String block(String text, String kind) {
        String begin = "```" + kind + "\n";
        int from = text.indexOf(begin);
        int to = text.indexOf("```\n", from + 1);
        check.holds("there is a block of " + kind, from >= 0 && to > from);
        return from >= 0 && to > from ? text.substring(from + begin.length(), to) : "";
    }

    private static String outputOf(String name, String program) throws IOException, ReflectiveOperationException {
        Files.createDirectories(BUILD);
        Path file = BUILD.resolve(name + ".java");
        Files.writeString(file, program, StandardCharsets.UTF_8);
        JavaCompiler compiler = ToolProvider.getSystemJavaCompiler();
        int failed = compiler.run(null, null, null, "-encoding", "UTF-8", "-d", BUILD.toString(),
                "-cp", System.getProperty("java.class.path"), file.toString());
        check.same("faults of the compiler", 0, failed);
        if (failed != 0) {
            return "";
        }
        try (URLClassLoader loader = new URLClassLoader(new URL[] {BUILD.toUri().toURL()})) {
            return printedBy(loader.loadClass(name).getMethod("main", String[].class));
        }
    }

    private static String printedBy(Method main) throws ReflectiveOperationException {
        PrintStream screen = System.out;
        ByteArrayOutputStream printed = new ByteArrayOutputStream();
        System.setOut(new PrintStream(printed, true, StandardCharsets.UTF_8));
        try {
            main.invoke(null, (Object) new String[0]);
        } finally {
            System.setOut(screen);
        }
        return printed.toString(StandardCharsets.UTF_8).replace(System.lineSeparator(), "\n");
    }
}
