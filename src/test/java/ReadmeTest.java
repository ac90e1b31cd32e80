import java.io.File;
import java.io.IOException;
import java.net.URL;
import java.net.URLClassLoader;
import java.nio.file.Files;
import java.nio.file.Path;
import java.util.regex.Matcher;
import java.util.regex.Pattern;
import java.util.stream.Stream;
import javax.tools.ToolProvider;

/** Makes the calls that README.md shows, in one program, and compares their answers with what stands behind them. */
public final class ReadmeTest {
    private static final Pattern ANSWERED = Pattern.compile("(.*\\)[^)]*); +// (throws )?([^ :]+)(: .*)?");
    private static final String RUNNER = "Readme";

    private static int answers = 0;
    private static int wrong = 0;

    public interface Asked {
        Object answer();
    }

    public static void main(String[] args) throws Exception {
        Path directory = Files.createTempDirectory("readme");
        try {
            compile(directory, programOf(Files.readString(Path.of("README.md"))));
            try (URLClassLoader loader = new URLClassLoader(new URL[] {directory.toUri().toURL()})) {
                loader.loadClass(RUNNER).getMethod("run").invoke(null);
            }
        } finally {
            delete(directory);
        }
        System.out.println(answers + " answers of README.md, " + wrong + " wrong");
        if (wrong != 0 || answers == 0) {
            System.exit(1);
        }
    }

    /** Called by the program that is made from README.md. */
    public static void check(String line, String due, Asked asked) {
        answers++;
        String got;
        try {
            got = String.valueOf(asked.answer());
        } catch (RuntimeException e) {
            got = e.getClass().getSimpleName();
        }
        if (!due.equals(got)) {
            wrong++;
            System.out.println(line + ": got " + got + ", due is " + due);
        }
    }

    private static String programOf(String page) {
        StringBuilder methods = new StringBuilder();
        StringBuilder calls = new StringBuilder();
        Matcher block = Pattern.compile("```java\n(.*?)```", Pattern.DOTALL).matcher(page);
        while (block.find()) {
            if (block.group(1).startsWith("static ")) {
                methods.append(block.group(1));
            } else {
                block.group(1).lines().forEach(line -> calls.append(checked(line)).append('\n'));
            }
        }
        return "public class " + RUNNER + " {\n" + methods + "public static void run() {\n" + calls + "}\n}\n";
    }

    private static String checked(String line) {
        Matcher answered = ANSWERED.matcher(line);
        if (!answered.matches()) {
            return line;
        }
        String call = answered.group(1);
        return "ReadmeTest.check(\"" + call.replace("\"", "\\\"") + "\", \"" + answered.group(3) + "\", () -> " + call + ");";
    }

    private static void compile(Path directory, String program) throws IOException {
        Path source = directory.resolve(RUNNER + ".java");
        Files.writeString(source, program);
        int result = ToolProvider.getSystemJavaCompiler().run(null, null, null, "-d", directory.toString(),
            "-cp", System.getProperty("java.class.path"), source.toString());
        if (result != 0) {
            throw new IllegalStateException("the calls of README.md do not compile");
        }
    }

    private static void delete(Path directory) throws IOException {
        try (Stream<Path> files = Files.list(directory)) {
            files.map(Path::toFile).forEach(File::delete);
        }
        Files.delete(directory);
    }
}
