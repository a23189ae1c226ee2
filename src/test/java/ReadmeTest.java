import java.io.IOException;
import java.lang.reflect.Method;
import java.lang.reflect.Modifier;
import java.net.URL;
import java.net.URLClassLoader;
import java.nio.file.Files;
import java.nio.file.Path;
import java.util.ArrayList;
import java.util.List;
import java.util.regex.Matcher;
import java.util.regex.Pattern;
import java.util.stream.Stream;
import javax.tools.ToolProvider;

/** README.md says how to use the class and how to run its tests: what it says of them is so. */
public final class ReadmeTest {
    /** A call of the example with its answer, also where the answer is given a name. */
    private static final Pattern ANSWERED = Pattern.compile("(?:int (\\w+) = )?(tree\\..*); *// (-?\\d+): .*");

    private static final Due due = new Due();

    public static void main(String[] args) throws IOException, ReflectiveOperationException {
        String readme = Files.readString(Path.of("README.md"));
        example(readme);
        namesAll(readme);
        due.end();
    }

    private static void example(String readme) throws IOException, ReflectiveOperationException {
        Matcher block = Pattern.compile("(?s)```java\n(.*?)```").matcher(readme);
        due.holds("there is an example", block.find());
        List<String> calls = new ArrayList<>();
        List<Long> wanted = new ArrayList<>();
        StringBuilder body = new StringBuilder();
        for (String line : block.group(1).split("\n")) {
            Matcher answered = ANSWERED.matcher(line);
            if (!answered.matches()) {
                body.append(line).append('\n');
                continue;
            }
            body.append("answers.add((long) ").append(answered.group(2)).append(");\n");
            if (answered.group(1) != null) {
                body.append("int ").append(answered.group(1)).append(" = answers.get(answers.size() - 1).intValue();\n");
            }
            calls.add(answered.group(2));
            wanted.add(Long.parseLong(answered.group(3)));
        }
        List<?> answers = run(body.toString());
        due.holds("the example has answers", !calls.isEmpty() && answers.size() == calls.size());
        for (int i = 0; i < answers.size(); i++) {
            due.same("the example: " + calls.get(i), (Long) answers.get(i), wanted.get(i));
        }
    }

    private static List<?> run(String body) throws IOException, ReflectiveOperationException {
        Path out = Files.createTempDirectory("readme");
        try {
            Path source = out.resolve("Example.java");
            Files.writeString(source, "public class Example { public static java.util.List<Long> run() {\n"
                + "java.util.List<Long> answers = new java.util.ArrayList<>();\n" + body + "return answers; } }\n");
            int failed = ToolProvider.getSystemJavaCompiler().run(null, null, null,
                "-d", out.toString(), "-cp", System.getProperty("java.class.path"), source.toString());
            due.same("the example compiles", failed, 0);
            try (URLClassLoader loader = new URLClassLoader(new URL[] {out.toUri().toURL()})) {
                return failed == 0 ? (List<?>) loader.loadClass("Example").getMethod("run").invoke(null) : List.of();
            }
        } finally {
            for (String name : new String[] {"Example.java", "Example.class"}) {
                Files.deleteIfExists(out.resolve(name));
            }
            Files.delete(out);
        }
    }

    private static void namesAll(String readme) throws IOException {
        for (Method method : FlashTree.class.getDeclaredMethods()) {
            if (Modifier.isPublic(method.getModifiers())) {
                due.holds("README.md names " + method.getName(), readme.contains("`" + method.getName() + "("));
            }
        }
        for (int answer = -9; answer < 0; answer++) {
            due.holds("README.md tells what " + answer + " is", readme.contains("\n| " + answer + " | "));
        }
        try (Stream<Path> tests = Files.list(Path.of("src/test/java"))) {
            for (Path test : tests.toList()) {
                String name = test.getFileName().toString().replace(".java", "");
                due.holds("README.md names " + name, readme.contains("`" + name + "`") || readme.contains("`@" + name + "`"));
            }
        }
        due.holds("README.md says how the tests are run", readme.contains("```sh\n.ci/run\n```"));
    }
}
