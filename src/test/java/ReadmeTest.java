import java.io.IOException;
import java.lang.reflect.Method;
import java.lang.reflect.Modifier;
import java.net.URL;
import java.net.URLClassLoader;
import java.nio.file.Files;
import java.nio.file.Path;
import java.util.ArrayList;
import java.util.Comparator;
import java.util.List;
import java.util.regex.Matcher;
import java.util.regex.Pattern;
import java.util.stream.Stream;
import javax.tools.JavaCompiler;
import javax.tools.ToolProvider;

/** README.md tells of every call and every test, and its examples answer what stands behind them. */
public final class ReadmeTest {
    private static final Pattern BLOCK = Pattern.compile("(?s)```java\n(.*?)```");
    private static final Pattern ANSWERED = Pattern.compile("((?:press\\.\\w+|put)\\(.*\\)); *// (-?\\d+): .*");
    private static final Checks CHECKS = new Checks("ReadmeTest");

    public static void main(String[] args) throws Exception {
        String readme = Files.readString(Path.of("README.md"));
        namesEveryCall(readme);
        namesEveryTest(readme);
        examplesAnswer(readme);
        CHECKS.end();
    }

    private static void namesEveryCall(String readme) {
        for (Method method : SwapPress.class.getDeclaredMethods()) {
            if (Modifier.isPublic(method.getModifiers())) {
                Pattern named = Pattern.compile("\\b" + method.getName() + "(\\(|`)");
                CHECKS.due("README names " + method.getName(), named.matcher(readme).find() ? 1 : 0, 1);
            }
        }
    }

    private static void namesEveryTest(String readme) throws IOException {
        try (Stream<Path> files = Files.list(Path.of("src/test/java"))) {
            for (Path file : files.toList()) {
                String name = file.getFileName().toString().replace(".java", "");
                if (name.endsWith("Test")) {
                    CHECKS.due("README names " + name, readme.contains(name) ? 1 : 0, 1);
                }
            }
        }
    }

    /** The first block is the helper, the others are rows of calls, one object each. */
    private static void examplesAnswer(String readme) throws Exception {
        StringBuilder source = new StringBuilder("public final class Examples {\n");
        List<String> calls = new ArrayList<>();
        List<Integer> due = new ArrayList<>();
        Matcher blocks = BLOCK.matcher(readme);
        CHECKS.due("README has a helper", blocks.find() ? 1 : 0, 1);
        source.append(blocks.group(1)).append("public static void run(java.util.List<Integer> answers) {\n");
        while (blocks.find()) {
            source.append("{\n");
            for (String line : blocks.group(1).split("\n")) {
                source.append(answered(line, calls, due)).append('\n');
            }
            source.append("}\n");
        }
        source.append("}\n}\n");
        CHECKS.due("README has answers", calls.isEmpty() ? 1 : 0, 0);
        compare(run(source.toString()), calls, due);
    }

    private static String answered(String line, List<String> calls, List<Integer> due) {
        Matcher call = ANSWERED.matcher(line);
        if (!call.matches()) {
            return line;
        }
        calls.add(call.group(1));
        due.add(Integer.valueOf(call.group(2)));
        return "answers.add(" + call.group(1) + ");";
    }

    private static void compare(List<Integer> answers, List<String> calls, List<Integer> due) {
        CHECKS.due("answers", answers.size(), due.size());
        for (int i = 0; i < due.size() && i < answers.size(); i++) {
            CHECKS.due(calls.get(i), answers.get(i), due.get(i));
        }
    }

    private static List<Integer> run(String source) throws Exception {
        Path place = Files.createTempDirectory("readme");
        List<Integer> answers = new ArrayList<>();
        try {
            Path file = Files.writeString(place.resolve("Examples.java"), source);
            JavaCompiler compiler = ToolProvider.getSystemJavaCompiler();
            int failed = compiler.run(null, null, null, "-cp", System.getProperty("java.class.path"),
                "-d", place.toString(), file.toString());
            CHECKS.due("README's examples compile", failed, 0);
            if (failed == 0) {
                try (URLClassLoader loader = new URLClassLoader(new URL[] {place.toUri().toURL()})) {
                    loader.loadClass("Examples").getMethod("run", List.class).invoke(null, answers);
                }
            }
        } finally {
            removeAll(place);
        }
        return answers;
    }

    private static void removeAll(Path place) throws IOException {
        try (Stream<Path> files = Files.walk(place)) {
            for (Path file : files.sorted(Comparator.reverseOrder()).toList()) {
                Files.delete(file);
            }
        }
    }
}
