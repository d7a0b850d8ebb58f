import java.lang.reflect.Executable;
import java.lang.reflect.Modifier;
import java.net.URL;
import java.net.URLClassLoader;
import java.nio.file.Files;
import java.nio.file.Path;
import java.util.ArrayList;
import java.util.List;
import java.util.regex.Matcher;
import java.util.regex.Pattern;
import javax.tools.ToolProvider;

/** README.md tells the whole face of the class, and its example answers as it says. */
public final class ReadmeTest {
    private static final Pattern JAVA = Pattern.compile("```java\n(.*?)```", Pattern.DOTALL);
    private static final Pattern ANSWERED = Pattern.compile("(\\S.*);\\s+// ([^:]+)(?:: .*)?");

    public static void main(String[] args) throws Exception {
        String readme = Files.readString(Path.of("README.md"));
        tellsTheFace(readme);
        List<String> blocks = JAVA.matcher(readme).results().map(block -> block.group(1)).toList();
        if (blocks.size() != 2) {
            throw new IllegalStateException("README.md is meant to hold say and then the example");
        }
        answersAsItSays(blocks.get(0), blocks.get(1).lines().filter(line -> !line.isEmpty()).toList());
        Tester.end();
    }

    private static void tellsTheFace(String readme) throws IllegalAccessException {
        for (var field : PolicyDesk.class.getFields()) {
            tells(readme, Pattern.quote("| `" + field.getName() + "` | " + field.getInt(null) + " | "));
        }
        for (var constructor : PolicyDesk.class.getConstructors()) {
            tells(readme, Pattern.quote("| `PolicyDesk") + parameters(constructor) + "` \\| ");
        }
        for (var method : PolicyDesk.class.getDeclaredMethods()) {
            if (Modifier.isPublic(method.getModifiers())) {
                String start = "| `" + method.getReturnType() + " " + method.getName();
                tells(readme, Pattern.quote(start) + parameters(method) + "` \\| ");
            }
        }
    }

    private static String parameters(Executable call) {
        List<String> types = new ArrayList<>();
        for (Class<?> type : call.getParameterTypes()) {
            types.add(type + " \\w+");
        }
        return "\\(" + String.join(", ", types) + "\\)";
    }

    private static void tells(String readme, String row) {
        Tester.same("rows of README.md that begin as " + row, Pattern.compile("(?m)^" + row).matcher(readme).results().count(), 1);
    }

    private static void answersAsItSays(String helper, List<String> lines) throws Exception {
        List<String> calls = new ArrayList<>();
        StringBuilder body = new StringBuilder(lines.get(0));
        for (String line : lines.subList(1, lines.size())) {
            Matcher answered = ANSWERED.matcher(line);
            if (!answered.matches()) {
                throw new IllegalStateException("neither a call nor its answer: " + line);
            }
            calls.add(answered.group(1));
            String due = answered.group(2).replaceAll("[A-Z]{2,}", "PolicyDesk.$0");
            body.append("all.add(new long[] {" + answered.group(1) + ", " + due + "});\n");
        }
        List<?> answers = run(helper, body.toString());
        Tester.same("calls of the example", answers.size(), calls.size());
        for (int i = 0; i < answers.size(); i++) {
            long[] answerAndDue = (long[]) answers.get(i);
            Tester.same(calls.get(i), answerAndDue[0], answerAndDue[1]);
        }
    }

    private static List<?> run(String helper, String body) throws Exception {
        Path folder = Files.createTempDirectory("readme");
        Path source = folder.resolve("Example.java");
        try {
            Files.writeString(source, "public class Example {\n" + helper
                    + "public static java.util.List<long[]> answers() {\n"
                    + "java.util.List<long[]> all = new java.util.ArrayList<>();\n" + body + "return all;\n}\n}\n");
            compile(source, folder);
            try (URLClassLoader loader = new URLClassLoader(new URL[] {folder.toUri().toURL()})) {
                return (List<?>) loader.loadClass("Example").getMethod("answers").invoke(null);
            }
        } finally {
            Files.deleteIfExists(folder.resolve("Example.class"));
            Files.deleteIfExists(source);
            Files.deleteIfExists(folder);
        }
    }

    private static void compile(Path source, Path folder) {
        String classes = System.getProperty("java.class.path");
        int code = ToolProvider.getSystemJavaCompiler()
                .run(null, null, null, "-cp", classes, "-d", folder.toString(), source.toString());
        if (code != 0) {
            throw new IllegalStateException("the example of README.md does not compile");
        }
    }
}
