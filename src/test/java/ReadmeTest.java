import java.io.IOException;
import java.lang.reflect.InvocationTargetException;
import java.net.URL;
import java.net.URLClassLoader;
import java.nio.file.Files;
import java.nio.file.Path;
import java.util.ArrayList;
import java.util.List;
import java.util.regex.Matcher;
import java.util.regex.Pattern;
import javax.tools.ToolProvider;

/** The examples of README.md: all of them, one behind the other, become one method, which is compiled and run. */
final class ReadmeTest {
    private static final Pattern EXAMPLE = Pattern.compile("(?s)```java\n(.*?)```");
    private static final Pattern ANSWERED =
            Pattern.compile("\\s*(?:int (\\w+) = )?(way\\.\\w+\\(.*\\));\\s+// ([^:]+?)(?:: .*)?");
    private static final String THROWS = "throws ";

    private final StringBuilder method = new StringBuilder();
    private final List<String> lines = new ArrayList<>();
    private final List<String> due = new ArrayList<>();

    private ReadmeTest() {
    }

    public static void main(String[] arguments) throws IOException, ReflectiveOperationException {
        ReadmeTest test = new ReadmeTest();
        Matcher example = EXAMPLE.matcher(Files.readString(Path.of("README.md")));
        while (example.find()) {
            for (String line : example.group(1).split("\n")) {
                test.take(line);
            }
        }
        List<String> got = List.of(test.answers().split("\n"));
        Script.due("how many answers README.md tells", got.size(), test.due.size());
        for (int i = 0; i < Math.min(got.size(), test.due.size()); i++) {
            Script.due(test.lines.get(i), got.get(i), test.due.get(i));
        }
        Script.end();
    }

    private void take(String line) {
        Matcher answered = ANSWERED.matcher(line);
        if (!answered.matches()) {
            Script.due(line + " tells an answer in another form", line.contains("//"), false);
            method.append(line).append('\n');
            return;
        }
        String name = answered.group(1);
        String call = answered.group(2);
        lines.add(line.trim());
        due.add(answered.group(3));
        if (answered.group(3).startsWith(THROWS)) {
            method.append("try { told.append(").append(call).append(").append('\\n'); } catch (RuntimeException e) { ")
                    .append("told.append(\"").append(THROWS)
                    .append("\").append(e.getClass().getSimpleName()).append('\\n'); }\n");
        } else if (name == null) {
            method.append("told.append(").append(call).append(").append('\\n');\n");
        } else {
            method.append("int ").append(name).append(" = ").append(call).append(";\n")
                    .append("told.append(").append(name).append(").append('\\n');\n");
        }
    }

    private String answers() throws IOException, ReflectiveOperationException {
        Path folder = Files.createTempDirectory("readme");
        Path source = folder.resolve("Readme.java");
        Path classFile = folder.resolve("Readme.class");
        Files.writeString(source, "public final class Readme {\npublic static String answers() {\n"
                + "StringBuilder told = new StringBuilder();\n" + method + "return told.toString();\n}\n}\n");
        try {
            int failed = ToolProvider.getSystemJavaCompiler().run(null, null, null, "-cp",
                    System.getProperty("java.class.path"), "-d", folder.toString(), source.toString());
            Script.due("the examples compile", failed, 0);
            return failed == 0 ? run(folder) : "";
        } finally {
            Files.deleteIfExists(classFile);
            Files.deleteIfExists(source);
            Files.deleteIfExists(folder);
        }
    }

    private static String run(Path folder) throws IOException, ReflectiveOperationException {
        try (URLClassLoader loader = new URLClassLoader(new URL[] {folder.toUri().toURL()})) {
            return (String) loader.loadClass("Readme").getMethod("answers").invoke(null);
        } catch (InvocationTargetException e) {
            return THROWS + e.getCause();
        }
    }
}
