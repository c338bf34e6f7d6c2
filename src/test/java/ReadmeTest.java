import java.io.IOException;
import java.lang.reflect.Method;
import java.lang.reflect.Modifier;
import java.net.URL;
import java.net.URLClassLoader;
import java.nio.file.Files;
import java.nio.file.Path;
import java.util.ArrayList;
import java.util.Arrays;
import java.util.List;
import java.util.stream.Collectors;
import javax.tools.ToolProvider;

/** README.md is run from the project's directory: its example answers what its comments say, and it tells every call. */
public final class ReadmeTest {
    private static final String FENCE = "```";

    public static void main(String[] args) throws IOException, ReflectiveOperationException {
        Check check = new Check();
        String readme = Files.readString(Path.of("README.md"));
        example(check, exampleOf(readme));
        tellsEveryCall(check, readme);
        check.end();
    }

    private static List<String> exampleOf(String readme) {
        int from = readme.indexOf(FENCE + "java\n") + FENCE.length() + 5;
        return readme.substring(from, readme.indexOf(FENCE, from)).lines().collect(Collectors.toList());
    }

    private static void example(Check check, List<String> lines) throws IOException, ReflectiveOperationException {
        StringBuilder source = new StringBuilder("public final class Example { public static void ask(java.util.List<String> got) {\n");
        for (String line : lines) {
            source.append(asked(line)).append('\n');
        }
        List<String> got = new ArrayList<>();
        compiled(source.append("} }").toString()).getMethod("ask", List.class).invoke(null, got);
        check.same("lines of the example that answer", got.size(), lines.size() - 1);
        for (String answer : got) {
            check.same("an answer and what the comment says, of: " + answer, answer.startsWith("same "), true);
        }
    }

    /** The line itself, and behind it a comparison of its value with the expression at the comment's begin. */
    private static String asked(String line) {
        String call = line.substring(0, line.indexOf(';'));
        if (call.endsWith("new DepotLog()")) {
            return call + ";";
        }
        String due = line.substring(line.indexOf("//") + 2).split(":")[0];
        String value = call;
        String before = "";
        if (call.startsWith("int ")) {
            before = call + ";";
            value = call.split(" ")[1];
        }
        return before + "got.add((" + value + " == " + due + " ? \"same \" : \"other \") + \"" + call + "\");";
    }

    private static Class<?> compiled(String source) throws IOException, ReflectiveOperationException {
        Path directory = Files.createTempDirectory("readme");
        Path file = directory.resolve("Example.java");
        Path made = directory.resolve("Example.class");
        try {
            Files.writeString(file, source);
            ToolProvider.getSystemJavaCompiler().run(null, null, null, "-cp", System.getProperty("java.class.path"),
                "-d", directory.toString(), file.toString());
            try (URLClassLoader loader = new URLClassLoader(new URL[] {directory.toUri().toURL()})) {
                return loader.loadClass("Example");
            }
        } finally {
            Files.deleteIfExists(made);
            Files.deleteIfExists(file);
            Files.deleteIfExists(directory);
        }
    }

    private static void tellsEveryCall(Check check, String readme) {
        for (Method method : DepotLog.class.getDeclaredMethods()) {
            if (Modifier.isPublic(method.getModifiers())) {
                String call = "`" + method.getName() + "(";
                long told = Arrays.stream(readme.split("\n")).filter(line -> line.startsWith("|") && line.contains(call)).count();
                check.same("lines of the table that tell " + method.getName(), told, 1L);
            }
        }
    }
}
