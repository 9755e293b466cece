import java.io.IOException;
import java.net.URL;
import java.net.URLClassLoader;
import java.nio.file.Files;
import java.nio.file.Path;
import java.util.List;
import java.util.function.BiConsumer;
import java.util.regex.Matcher;
import java.util.regex.Pattern;
import javax.tools.ToolProvider;

/** README.md's example, compiled and run: each call with an answer behind it answers that. */
public final class ReadmeTest {
    private static final Pattern BLOCK = Pattern.compile("(?s)```java\n(.*?)```");
    private static final Pattern ANSWERED = Pattern.compile("(x\\.\\w+\\(.*?\\));\\s+// (-?\\d+|LOST)\\b.*");
    private static final Check check = new Check();

    public static void main(String[] args) throws Exception {
        Matcher block = BLOCK.matcher(Files.readString(Path.of("README.md")));
        check.holds("there is an example", block.find());
        Path made = Files.createTempDirectory("readme");
        Path file = made.resolve("ReadmeExample.java");
        Files.writeString(file, program(block.group(1)));
        int failed = ToolProvider.getSystemJavaCompiler().run(null, null, null, "-proc:none", "-cp",
            System.getProperty("java.class.path"), "-d", made.toString(), file.toString());
        check.due("the example compiles", failed, 0);
        if (failed == 0) {
            run(made);
        }
        for (String name : List.of("ReadmeExample.java", "ReadmeExample.class")) {
            Files.deleteIfExists(made.resolve(name));
        }
        Files.delete(made);
        check.finish();
    }

    private static String program(String example) {
        StringBuilder text = new StringBuilder("public final class ReadmeExample {\n"
            + "    public static void answer(java.util.function.BiConsumer<String, long[]> due) {\n"
            + "        final long LOST = BlankPardons.LOST;\n");
        int answers = 0;
        for (String line : example.split("\n")) {
            Matcher call = ANSWERED.matcher(line.trim());
            if (call.matches()) {
                answers++;
                text.append("due.accept(\"").append(call.group(1)).append("\", new long[] {").append(call.group(1))
                    .append(", ").append(call.group(2)).append("});\n");
            } else {
                text.append(line).append('\n');
            }
        }
        check.holds("the example has answers", answers > 0);
        return text.append("    }\n}\n").toString();
    }

    private static void run(Path made) throws IOException, ReflectiveOperationException {
        BiConsumer<String, long[]> due = (call, both) -> check.due(call, both[0], both[1]);
        try (URLClassLoader loader = new URLClassLoader(new URL[] {made.toUri().toURL()})) {
            loader.loadClass("ReadmeExample").getMethod("answer", BiConsumer.class).invoke(null, due);
        }
    }
}
