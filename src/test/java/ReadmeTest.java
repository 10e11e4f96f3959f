import java.io.File;
import java.net.URL;
import java.net.URLClassLoader;
import java.nio.file.Files;
import java.nio.file.Path;
import java.util.regex.Matcher;
import java.util.regex.Pattern;
import javax.tools.ToolProvider;

/** The README's example, compiled and run; a number or truth behind // is the answer due. From the project's folder. */
public final class ReadmeTest {
    private static final Pattern ANSWERED =
            Pattern.compile("(int (\\w+) = )?(house\\.\\w+\\([^;]*\\)); +// (-?\\d+|true|false)\\b.*");
    private static final int FEWEST = 30;

    private static String example(String readme) {
        Matcher block = Pattern.compile("(?s)```java\n(.*?)```").matcher(readme);
        return block.find() ? block.group(1) : "";
    }

    private static String asked(String line) {
        Matcher m = ANSWERED.matcher(line);
        if (!m.matches()) {
            return line + "\n";
        }
        String call = m.group(1) == null ? m.group(3) : m.group(2);
        String before = m.group(1) == null ? "" : m.group(1) + m.group(3) + ";\n";
        return before + "if (" + call + " != " + m.group(4) + ") { wrong++; System.out.println(\"not as due: "
                + m.group(3) + "\"); }\n";
    }

    private static int wrongAnswers(String program) throws Exception {
        Path folder = Files.createTempDirectory("readme");
        try (URLClassLoader loader = new URLClassLoader(new URL[] {folder.toUri().toURL()})) {
            Path source = folder.resolve("Example.java");
            Files.writeString(source, program);
            String path = System.getProperty("java.class.path");
            int compiled = ToolProvider.getSystemJavaCompiler().run(null, null, null, "-cp", path, source.toString());
            return compiled != 0 ? 1 : (int) loader.loadClass("Example").getMethod("wrong").invoke(null);
        } finally {
            for (File file : folder.toFile().listFiles()) {
                Files.delete(file.toPath());
            }
            Files.delete(folder);
        }
    }

    public static void main(String[] args) throws Exception {
        String[] lines = example(Files.readString(Path.of("README.md"))).split("\n");
        StringBuilder body = new StringBuilder();
        int answered = 0;
        for (String line : lines) {
            answered += ANSWERED.matcher(line).matches() ? 1 : 0;
            body.append(asked(line));
        }
        int wrong = answered < FEWEST ? 1 : wrongAnswers(
                "public class Example { public static int wrong() { int wrong = 0;\n" + body + "return wrong; } }");
        System.out.println(wrong == 0 ? "the README's " + answered + " answers are as due" : "the README is wrong");
        if (wrong != 0) {
            System.exit(1);
        }
    }
}
