import java.io.File;
import java.io.IOException;
import java.lang.reflect.Method;
import java.net.URL;
import java.net.URLClassLoader;
import java.nio.file.Files;
import java.nio.file.Path;
import java.util.ArrayList;
import java.util.List;
import java.util.function.Supplier;
import java.util.regex.Matcher;
import java.util.regex.Pattern;
import javax.tools.ToolProvider;

/**
 * README.md: each example call answers what stands behind it, each call of the face has an example, and each test
 * of the project is named. An example is compiled as it stands; a line of it is an object that is made, or a call
 * with its answer behind it: "// 13: words", "// true", "// throws IllegalStateException: words".
 */
final class ReadmeTest {
    private static final Pattern EXAMPLE = Pattern.compile("```java\n(.*?)```", Pattern.DOTALL);
    private static final Pattern MADE = Pattern.compile("MadeRunners \\w+ = new MadeRunners\\(-?\\d+\\);( +// .*)?");
    private static final Pattern CALL = Pattern.compile("(?:(int|long|boolean) (\\w+) = )?(\\w+\\.\\w+\\(.*\\)); +// ([^:]+)(: .*)?");

    private final Due due = new Due();
    private final StringBuilder program = new StringBuilder();
    private final List<String> calls = new ArrayList<>();
    private final List<String> answers = new ArrayList<>();

    public static void main(String[] args) throws Exception {
        String text = Files.readString(Path.of("README.md"));
        ReadmeTest test = new ReadmeTest();
        test.due.under("README.md");
        test.examples(text);
        test.everyCallIsShown();
        test.everyTestIsNamed(text);
        test.due.is("names .ci/run", text.contains("\n.ci/run\n"), true);
        test.due.end();
    }

    private void examples(String text) throws Exception {
        program.append("public final class Examples implements java.util.function.Supplier<java.util.List<String>> {\n");
        program.append("public java.util.List<String> get() {\n");
        program.append("java.util.List<String> got = new java.util.ArrayList<>();\n");
        Matcher example = EXAMPLE.matcher(text);
        while (example.find()) {
            program.append("{\n");
            example.group(1).lines().filter(line -> !line.isBlank()).forEach(this::translate);
            program.append("}\n");
        }
        program.append("return got;\n}\n}\n");
        List<String> got = answersOf(program.toString());
        due.is("answers", got.size(), answers.size());
        for (int i = 0; i < got.size(); i++) {
            due.reads(calls.get(i), got.get(i), answers.get(i));
        }
    }

    private void translate(String line) {
        Matcher call = CALL.matcher(line);
        if (MADE.matcher(line).matches()) {
            program.append(line).append('\n');
        } else if (!call.matches()) {
            due.tell("no answer stands behind: " + line);
        } else {
            calls.add(call.group(3));
            answers.add(call.group(4));
            program.append(call.group(1) == null ? asked(call.group(3)) : kept(call));
        }
    }

    private static String asked(String call) {
        return "try { got.add(String.valueOf(" + call + ")); }\n"
                + "catch (RuntimeException e) { got.add(\"throws \" + e.getClass().getSimpleName()); }\n";
    }

    private static String kept(Matcher call) {
        String name = call.group(2);
        return call.group(1) + " " + name + " = " + call.group(3) + ";\ngot.add(String.valueOf(" + name + "));\n";
    }

    private static List<String> answersOf(String program) throws Exception {
        Path folder = Files.createTempDirectory("readme");
        try {
            Path file = Files.writeString(folder.resolve("Examples.java"), program);
            String here = System.getProperty("java.class.path");
            int code = ToolProvider.getSystemJavaCompiler()
                    .run(null, null, null, "-cp", here, "-d", folder.toString(), file.toString());
            if (code != 0) {
                throw new IllegalStateException("the examples of README.md do not compile");
            }
            return answersOf(folder);
        } finally {
            remove(folder);
        }
    }

    private static List<String> answersOf(Path folder) throws Exception {
        try (URLClassLoader loader = new URLClassLoader(new URL[] {folder.toUri().toURL()})) {
            Supplier<?> examples = (Supplier<?>) loader.loadClass("Examples").getConstructor().newInstance();
            return ((List<?>) examples.get()).stream().map(String::valueOf).toList();
        }
    }

    private static void remove(Path folder) throws IOException {
        for (File each : folder.toFile().listFiles()) {
            Files.delete(each.toPath());
        }
        Files.delete(folder);
    }

    private void everyCallIsShown() {
        for (Method each : MadeRunners.class.getMethods()) {
            if (each.getDeclaringClass() == MadeRunners.class) {
                boolean shown = calls.stream().anyMatch(call -> call.contains("." + each.getName() + "("));
                due.is("an example shows " + each.getName() + "()", shown, true);
            }
        }
    }

    /** Those of a promise or of a paragraph of the Terms are named together, as P01..P15 and T1..T9. */
    private void everyTestIsNamed(String text) {
        for (String each : new File("src/test/java").list((folder, name) -> name.endsWith("Test.java"))) {
            String name = each.replaceFirst("[.]java$", "").replaceFirst("^P\\d\\d.*", "P01..P15").replaceFirst("^T\\d.*", "T1..T9");
            due.is("names " + name, text.contains("| `" + name + "` |"), true);
        }
    }
}
