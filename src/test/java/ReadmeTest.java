import java.io.IOException;
import java.lang.reflect.Method;
import java.lang.reflect.Modifier;
import java.net.URL;
import java.net.URLClassLoader;
import java.nio.file.Files;
import java.nio.file.Path;
import java.util.ArrayList;
import java.util.List;
import java.util.regex.Matcher;
import java.util.regex.Pattern;
import javax.tools.ToolProvider;

/** README.md: its example answers what it says, and its table has each method of the face. */
public final class ReadmeTest {
    /** A call, with the variable that keeps its answer if there is one, and the answer that it is to give. */
    private static final Pattern CALL = Pattern.compile("(?:int (\\w+) = )?(x\\.\\w+\\(.*\\)); +// (-?\\d+).*");

    public static void main(String[] args) throws IOException, ReflectiveOperationException {
        List<String> lines = Files.readAllLines(Path.of("README.md"));
        for (Method m : ClassMaker4.class.getDeclaredMethods()) {
            if (Modifier.isPublic(m.getModifiers())) {
                isTold(lines, m);
            }
        }
        int begin = lines.indexOf("```java");
        int end = lines.indexOf("```");
        Check.due("an example stands there", begin >= 0 && begin < end, true);
        exampleHolds(lines.subList(begin + 1, end));
        Check.end();
    }

    private static void isTold(List<String> lines, Method m) {
        String row = "";
        for (String line : lines) {
            row = line.startsWith("| `" + m.getName() + "(") ? line : row;
        }
        Check.due("README.md tells of " + m.getName(), row.isEmpty(), false);
        String names = row.replaceAll("^[^(]*\\(|\\).*$", "");
        int count = names.isEmpty() ? 0 : names.split(",").length;
        Check.due("parameters there of " + m.getName(), count, m.getParameterCount());
        for (Class<?> e : m.getExceptionTypes()) {
            Check.due("README.md tells that " + m.getName() + " throws " + e.getSimpleName(), row.contains(e.getSimpleName()), true);
        }
    }

    /** The first line makes the object, all others are calls. */
    private static void exampleHolds(List<String> example) throws IOException, ReflectiveOperationException {
        StringBuilder body = new StringBuilder(example.get(0)).append('\n');
        List<Long> told = new ArrayList<>();
        for (String line : example.subList(1, example.size())) {
            Matcher call = CALL.matcher(line);
            Check.due("\"" + line + "\" is a call with its answer, that", call.matches(), true);
            String kept = call.group(1);
            body.append(kept == null ? "" : "int " + kept + " = " + call.group(2) + ";\n");
            body.append("all.add((long) ").append(kept == null ? call.group(2) : kept).append(");\n");
            told.add(Long.valueOf(call.group(3)));
        }
        List<?> answers = answersOf(body.toString());
        for (int i = 0; i < told.size(); i++) {
            Check.due(example.get(i + 1), (Long) answers.get(i), told.get(i));
        }
    }

    private static List<?> answersOf(String body) throws IOException, ReflectiveOperationException {
        Path place = Files.createTempDirectory(Files.createDirectories(Path.of("build")), "readme");
        Path source = place.resolve("Example.java");
        Path compiled = place.resolve("Example.class");
        Files.writeString(source, "public final class Example { public static java.util.List<Long> answers() {\n"
            + "java.util.List<Long> all = new java.util.ArrayList<>();\n" + body + "return all; } }\n");
        int exit = ToolProvider.getSystemJavaCompiler().run(null, null, null,
            "-cp", System.getProperty("java.class.path"), "-d", place.toString(), source.toString());
        Check.due("javac of the example", exit, 0);
        try (URLClassLoader loader = new URLClassLoader(new URL[] {place.toUri().toURL()})) {
            return (List<?>) loader.loadClass("Example").getMethod("answers").invoke(null);
        } finally {
            Files.deleteIfExists(compiled);
            Files.deleteIfExists(source);
            Files.deleteIfExists(place);
        }
    }
}
