import java.io.IOException;
import java.lang.reflect.Method;
import java.net.URL;
import java.net.URLClassLoader;
import java.nio.file.Files;
import java.nio.file.Path;
import java.util.regex.Matcher;
import java.util.regex.Pattern;
import javax.tools.JavaCompiler;
import javax.tools.ToolProvider;

/**
 * README.md shows calls, each with its answer in a comment behind it: they are compiled as they stand there, and every
 * answer is compared. It is run from the project's folder.
 */
public final class ReadmeTest {
    private static final Check CHECK = new Check("ReadmeTest");
    private static final Pattern BLOCK = Pattern.compile("(?s)```java\n(.*?)```");
    private static final Pattern CALL = Pattern.compile("(?m)^(\\w+\\.\\w+\\(.*\\)); +// (-?[\\w.]+).*$");

    public static void main(String[] args) throws IOException, ReflectiveOperationException {
        StringBuilder blocks = new StringBuilder();
        Matcher matcher = BLOCK.matcher(Files.readString(Path.of("README.md")));
        while (matcher.find()) {
            blocks.append(matcher.group(1));
        }
        Path folder = Files.createTempDirectory("readme");
        try {
            runExample(folder, exampleOf(blocks.toString()));
        } finally {
            for (String file : new String[] {"ReadmeExample.java", "ReadmeExample.class", ""}) {
                Files.deleteIfExists(folder.resolve(file));
            }
        }
        CHECK.finish();
    }

    /** Its own class loader sees the example alone, so that it calls back to the very class that counts the answers. */
    private static void runExample(Path folder, String example) throws IOException, ReflectiveOperationException {
        Path source = folder.resolve("ReadmeExample.java");
        Files.writeString(source, example);
        JavaCompiler compiler = ToolProvider.getSystemJavaCompiler();
        if (compiler == null) {
            CHECK.fail("this java comes without its javac");
            return;
        }
        String path = System.getProperty("java.class.path");
        if (compiler.run(null, null, null, "-cp", path, "-d", folder.toString(), source.toString()) != 0) {
            CHECK.fail("the example does not compile");
            return;
        }
        try (URLClassLoader loader = new URLClassLoader(new URL[] {folder.toUri().toURL()})) {
            Method main = loader.loadClass("ReadmeExample").getMethod("main");
            main.invoke(null);
        }
    }

    private static String exampleOf(String blocks) {
        StringBuilder body = new StringBuilder();
        Matcher call = CALL.matcher(blocks);
        int calls = 0;
        while (call.find()) {
            calls++;
            String answer = call.group(2);
            String due = answer.matches("[A-Z_]+") ? "PoisonedMemory." + answer : answer;
            String quoted = call.group(1).replace("\"", "\\\"");
            call.appendReplacement(body, Matcher.quoteReplacement(
                "ReadmeTest.due(\"" + quoted + "\", " + call.group(1) + ", " + due + ");"));
        }
        call.appendTail(body);
        CHECK.due("the README shows calls with their answers", calls > 0 ? 1 : 0, 1);
        return "public final class ReadmeExample {\npublic static void main() {\n" + body + "}\n}\n";
    }

    public static void due(String call, double got, double want) {
        CHECK.due(call, got, want);
    }
}
