import java.io.IOException;
import java.lang.reflect.Method;
import java.lang.reflect.Modifier;
import java.net.URL;
import java.net.URLClassLoader;
import java.nio.file.Files;
import java.nio.file.Path;
import java.util.ArrayList;
import java.util.Comparator;
import java.util.List;
import java.util.regex.Matcher;
import java.util.regex.Pattern;
import java.util.stream.Stream;
import javax.tools.ToolProvider;

/** README.md: the calls under Use are compiled and made, and answer what stands there; no call is left out. */
public final class ReadmeTest {
    private static final Pattern EXAMPLE = Pattern.compile("(?s)```java\n(.*?)```");
    private static final Pattern ANSWERED = Pattern.compile("(?:int (\\w+) = )?(weave\\..*); // (-?\\d+): .*");

    private final List<String> calls = new ArrayList<>();
    private final List<Integer> due = new ArrayList<>();
    private final StringBuilder program = new StringBuilder();

    public static void main(String[] args) throws Exception {
        String readme = Files.readString(Path.of("README.md"));
        allCallsAreTold(readme);
        Matcher example = EXAMPLE.matcher(readme);
        Checks.holds("that there is an example", example.find());
        new ReadmeTest().run(example.group(1).split("\n"));
        Checks.end();
    }

    private static void allCallsAreTold(String readme) {
        for (Method one : LessonWeave.class.getDeclaredMethods()) {
            if (Modifier.isPublic(one.getModifiers())) {
                isTold(one, readme);
            }
        }
    }

    private static void isTold(Method call, String readme) {
        Matcher row = Pattern.compile("\\| `" + call.getName() + "\\((.*?)\\)` \\| .* \\| (.*) ?\\|").matcher(readme);
        if (!row.find()) {
            Checks.holds("that the table tells " + call.getName(), false);
            return;
        }
        long arguments = row.group(1).isEmpty() ? 0 : row.group(1).split(", ").length;
        Checks.equal("arguments of " + call.getName(), arguments, call.getParameterCount());
        StringBuilder thrown = new StringBuilder();
        for (Class<?> exception : call.getExceptionTypes()) {
            thrown.append(exception.getSimpleName()).append(' ');
        }
        Checks.holds("that the table tells what " + call.getName() + " throws, " + thrown,
            row.group(2).replaceAll("[^`]*`(\\w+)`[^`]*", "$1 ").equals(thrown.toString()));
    }

    private void run(String[] lines) throws Exception {
        program.append("public class ReadmeUse implements java.util.function.Supplier<java.util.List<Integer>> {\n")
            .append("public java.util.List<Integer> get() {\n")
            .append("java.util.List<Integer> answers = new java.util.ArrayList<>();\n");
        for (String line : lines) {
            add(line);
        }
        program.append("return answers;\n}\n}\n");
        Checks.holds("that the example has answers", !due.isEmpty());
        List<?> answers = answers();
        Checks.equal("answers", answers.size(), due.size());
        for (int k = 0; k < due.size() && k < answers.size(); k++) {
            Checks.equal(calls.get(k), (Integer) answers.get(k), due.get(k));
        }
    }

    private void add(String line) {
        Matcher answered = ANSWERED.matcher(line);
        if (!answered.matches()) {
            Checks.holds("that an answer stands behind " + line, line.equals("LessonWeave weave = new LessonWeave();"));
            program.append(line).append('\n');
            return;
        }
        String kept = answered.group(1);
        String call = answered.group(2);
        calls.add(call);
        due.add(Integer.valueOf(answered.group(3)));
        if (kept == null) {
            program.append("answers.add(").append(call).append(");\n");
        } else {
            program.append("int ").append(kept).append(" = ").append(call).append(";\n")
                .append("answers.add(").append(kept).append(");\n");
        }
    }

    private List<?> answers() throws Exception {
        Path directory = Files.createTempDirectory("readme");
        try {
            Path file = Files.writeString(directory.resolve("ReadmeUse.java"), program);
            int refused = ToolProvider.getSystemJavaCompiler().run(null, null, null, "-d", directory.toString(),
                "-cp", System.getProperty("java.class.path"), file.toString());
            Checks.equal("javac", refused, 0);
            try (URLClassLoader loader = new URLClassLoader(new URL[] {directory.toUri().toURL()})) {
                Object use = loader.loadClass("ReadmeUse").getConstructor().newInstance();
                return (List<?>) ((java.util.function.Supplier<?>) use).get();
            }
        } finally {
            remove(directory);
        }
    }

    private static void remove(Path directory) throws IOException {
        try (Stream<Path> files = Files.walk(directory)) {
            for (Path one : files.sorted(Comparator.reverseOrder()).toList()) {
                Files.delete(one);
            }
        }
    }
}
