import java.io.IOException;
import java.lang.reflect.Method;
import java.lang.reflect.Modifier;
import java.nio.file.Files;
import java.nio.file.Path;
import java.util.ArrayList;
import java.util.List;
import java.util.regex.Matcher;
import java.util.regex.Pattern;
import javax.tools.ToolProvider;

/** README.md: its examples answer as it tells, and each call of the class is named in it. */
final class ReadmeTest {
    private static final Path README = Path.of("README.md");
    // a statement that ends in a call, and the answer that its comment tells
    private static final Pattern TOLD = Pattern.compile("(?:int \\w+ = )?(x\\.\\w+\\(.*\\));\\s+// (-?\\d+): .*");

    private ReadmeTest() {
    }

    public static void main(String[] args) throws Exception {
        examplesAnswerAsTold();
        eachCallIsNamed();
        Due.end();
    }

    // The examples are run as they stand, one behind another: each line that tells an answer is checked.
    private static void examplesAnswerAsTold() throws Exception {
        List<String> body = new ArrayList<>();
        int told = 0;
        for (String line : javaLines()) {
            body.add(line);
            Matcher m = TOLD.matcher(line);
            if (m.matches()) {
                told++;
                String answer = line.startsWith("int ") ? line.split(" ")[1] : null;
                if (answer == null) {
                    body.set(body.size() - 1, checked(m.group(1), m.group(1), m.group(2)));
                } else {
                    body.add(checked(m.group(1), answer, m.group(2)));
                }
            }
        }
        Due.is("lines of README.md that tell an answer", told, 9);
        Due.is("what the examples of README.md end with", run(body), 0);
    }

    private static String checked(String call, String answer, String due) {
        String name = call.replace("\"", "'");
        return "Due.is(\"README.md: " + name + "\", " + answer + ", " + due + "L);";
    }

    private static List<String> javaLines() throws IOException {
        List<String> lines = new ArrayList<>();
        boolean inside = false;
        for (String line : Files.readAllLines(README)) {
            if (line.startsWith("```")) {
                inside = line.equals("```java");
            } else if (inside) {
                lines.add(line);
            }
        }
        return lines;
    }

    // Exit code of a main method made of these lines, compiled and run beside the class.
    private static int run(List<String> body) throws Exception {
        String classes = System.getProperty("java.class.path");
        Path folder = Files.createTempDirectory("readme");
        Path source = folder.resolve("Example.java");
        try {
            Files.writeString(source, "final class Example {\n    public static void main(String[] args) {\n"
                + String.join("\n", body) + "\nDue.end();\n}\n}\n");
            int compiled = ToolProvider.getSystemJavaCompiler().run(null, null, null,
                "-cp", classes, "-d", folder.toString(), source.toString());
            return compiled != 0 ? compiled : new ProcessBuilder("java", "-cp", classes + ":" + folder, "Example")
                .inheritIO().start().waitFor();
        } finally {
            Files.deleteIfExists(folder.resolve("Example.class"));
            Files.deleteIfExists(source);
            Files.deleteIfExists(folder);
        }
    }

    private static void eachCallIsNamed() throws IOException {
        String readme = Files.readString(README);
        int calls = 0;
        for (Method method : TonightCovers.class.getDeclaredMethods()) {
            if (Modifier.isPublic(method.getModifiers())) {
                calls++;
                boolean named = readme.contains("`" + method.getName() + "`");
                Due.is("README.md names " + method.getName(), named ? 1 : 0, 1);
            }
        }
        Due.is("public methods", calls, 45);
    }
}
