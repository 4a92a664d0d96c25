import java.io.IOException;
import java.net.URL;
import java.net.URLClassLoader;
import java.nio.file.Files;
import java.nio.file.Path;
import java.util.List;
import java.util.function.Consumer;
import java.util.regex.Matcher;
import java.util.regex.Pattern;
import java.util.stream.Stream;
import javax.tools.ToolProvider;

/** Compiles and runs the examples of README.md: each call answers what the comment behind it begins with. */
public final class ReadmeTest {
    private static final Check CHECK = new Check("ReadmeTest");
    private static final Pattern EXAMPLE = Pattern.compile("(?s)```java\n(.*?)```");
    private static final Pattern CALL = Pattern.compile("(?m)^(x\\..*);\\s+// (-?\\d+).*$");

    public static void main(String[] args) throws IOException, ReflectiveOperationException {
        Path directory = Files.createTempDirectory("readme");
        Matcher example = EXAMPLE.matcher(Files.readString(Path.of(args[0], "README.md")));
        int examples = 0;
        while (example.find()) {
            run(directory, "Example" + examples++, example.group(1));
        }
        remove(directory);
        CHECK.due("examples", examples, 2);
        CHECK.end();
    }

    private static void remove(Path directory) throws IOException {
        List<Path> made;
        try (Stream<Path> files = Files.list(directory)) {
            made = files.toList();
        }
        for (Path file : made) {
            Files.delete(file);
        }
        Files.delete(directory);
    }

    private static void run(Path directory, String name, String example)
            throws IOException, ReflectiveOperationException {
        Matcher call = CALL.matcher(example);
        StringBuilder asked = new StringBuilder();
        while (call.find()) {
            String words = call.group(1).replace("\"", "\\\"");
            call.appendReplacement(asked, "");
            asked.append("a.accept(new Object[] {\"").append(words).append("\", (long) ").append(call.group(1))
                    .append(", ").append(call.group(2)).append("L});");
        }
        call.appendTail(asked);
        Path source = directory.resolve(name + ".java");
        Files.writeString(source, "public final class " + name
                + " implements java.util.function.Consumer<java.util.function.Consumer<Object[]>> {\n"
                + "public void accept(java.util.function.Consumer<Object[]> a) {\n" + asked + "}\n}\n");
        int compiled = ToolProvider.getSystemJavaCompiler().run(null, null, null, "-d", directory.toString(),
                "-cp", System.getProperty("java.class.path"), source.toString());
        CHECK.due(name + " compiles", compiled, 0);
        if (compiled == 0) {
            ask(directory, name);
        }
    }

    @SuppressWarnings("unchecked")
    private static void ask(Path directory, String name) throws IOException, ReflectiveOperationException {
        try (URLClassLoader loader = new URLClassLoader(new URL[] {directory.toUri().toURL()})) {
            Object example = loader.loadClass(name).getDeclaredConstructor().newInstance();
            Consumer<Object[]> answers = answer -> CHECK.due("README.md, " + answer[0], (Long) answer[1],
                    (Long) answer[2]);
            ((Consumer<Consumer<Object[]>>) example).accept(answers);
        }
    }
}
