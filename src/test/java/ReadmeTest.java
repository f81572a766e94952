import java.io.IOException;
import java.lang.reflect.Method;
import java.lang.reflect.Modifier;
import java.net.URL;
import java.net.URLClassLoader;
import java.nio.file.Files;
import java.nio.file.Path;
import java.util.ArrayList;
import java.util.List;
import java.util.Set;
import java.util.TreeSet;
import java.util.regex.Matcher;
import java.util.regex.Pattern;
import java.util.stream.Stream;
import javax.tools.ToolProvider;

/** What README.md says is so: its examples are run, and the paths and tests that it names are there. */
public final class ReadmeTest {
    private static final Check CHECK = new Check();
    private static final Path README = Path.of("README.md");
    private static final Path TESTS = Path.of("src/test/java");

    private static final Pattern ANSWER = Pattern.compile("(?:int|long) (\\w+) = .*;\\s+// (-?\\d+)\\b.*");
    private static final Pattern REFUSAL = Pattern.compile("(.*;)\\s+// throws (\\w+)\\b.*");
    private static final Pattern QUOTED = Pattern.compile("`([^`\\s]+)`");

    public static void main(String[] args) throws Exception {
        String text = Files.readString(README);
        List<String> example = exampleLines(text);
        allCallsAreShown(String.join("\n", example));
        examplesAnswerAsTold(example);
        pathsAreThere(text);
        testsAreTheSame(text);
        CHECK.due("how to run the tests is told", 1, text.contains("```sh\n.ci/run\n```") ? 1 : 0);
        CHECK.end();
    }

    /** The lines of all blocks of Java. */
    private static List<String> exampleLines(String text) {
        List<String> lines = new ArrayList<>();
        boolean inside = false;
        for (String line : text.split("\n")) {
            if (line.startsWith("```")) {
                inside = line.equals("```java");
            } else if (inside) {
                lines.add(line);
            }
        }
        return lines;
    }

    private static void allCallsAreShown(String example) {
        for (Method m : RubbingMirrors.class.getDeclaredMethods()) {
            if (Modifier.isPublic(m.getModifiers())) {
                CHECK.due("an example calls " + m.getName(), 1, example.contains("." + m.getName() + "(") ? 1 : 0);
            }
        }
        for (Class<?> thrown : List.of(Check.INDEX, Check.ARGUMENT, Check.STATE)) {
            String remark = "// throws " + thrown.getSimpleName();
            CHECK.due("an example " + remark, 1, example.contains(remark) ? 1 : 0);
        }
    }

    private static void examplesAnswerAsTold(List<String> example) throws Exception {
        List<String> due = new ArrayList<>();
        StringBuilder source = new StringBuilder("public final class ReadmeExample {\n"
            + "public static void run(java.util.List<String> got) {\n");
        for (String line : example) {
            addLine(source, line, due);
        }
        source.append("}\n}\n");
        List<String> got = answersOf(source.toString());
        CHECK.due("how many answers", due.size(), got.size());
        for (int i = 0; i < Math.min(due.size(), got.size()); i++) {
            CHECK.due("the example", due.get(i), got.get(i));
        }
    }

    private static void addLine(StringBuilder source, String line, List<String> due) {
        Matcher answer = ANSWER.matcher(line);
        Matcher refusal = REFUSAL.matcher(line);
        if (refusal.matches()) {
            source.append("try {\n").append(refusal.group(1)).append("\ngot.add(").append(quoted(refusal.group(1)))
                .append(" + \" throws nothing\");\n} catch (RuntimeException e) {\ngot.add(")
                .append(quoted(refusal.group(1))).append(" + \" throws \" + e.getClass().getSimpleName());\n}\n");
            due.add(refusal.group(1) + " throws " + refusal.group(2));
            return;
        }
        source.append(line).append('\n');
        if (answer.matches()) {
            source.append("got.add(\"").append(answer.group(1)).append(" is \" + ").append(answer.group(1))
                .append(");\n");
            due.add(answer.group(1) + " is " + answer.group(2));
        }
    }

    private static String quoted(String call) {
        return '"' + call + '"';
    }

    private static List<String> answersOf(String source) throws Exception {
        Path dir = Files.createTempDirectory("readme");
        Path file = dir.resolve("ReadmeExample.java");
        List<String> got = new ArrayList<>();
        try {
            Files.writeString(file, source);
            int code = ToolProvider.getSystemJavaCompiler().run(null, null, null, "-d", dir.toString(),
                "-cp", System.getProperty("java.class.path"), file.toString());
            CHECK.due("the examples compile", 0, code);
            if (code == 0) {
                try (URLClassLoader loader = new URLClassLoader(new URL[] {dir.toUri().toURL()})) {
                    loader.loadClass("ReadmeExample").getMethod("run", List.class).invoke(null, got);
                }
            }
        } finally {
            Files.deleteIfExists(dir.resolve("ReadmeExample.class"));
            Files.deleteIfExists(file);
            Files.deleteIfExists(dir);
        }
        return got;
    }

    /** Of ../shared only its tests are needed here, and .ci/run itself fails without them. */
    private static void pathsAreThere(String text) {
        Matcher quoted = QUOTED.matcher(text);
        while (quoted.find()) {
            String name = quoted.group(1);
            if (name.contains("/") && !name.startsWith("../")) {
                CHECK.due(name + " is there", 1, Files.exists(Path.of(name)) ? 1 : 0);
            }
        }
        CHECK.due(".ci/run can be run", 1, Files.isExecutable(Path.of(".ci/run")) ? 1 : 0);
    }

    private static void testsAreTheSame(String text) throws IOException {
        Set<String> told = new TreeSet<>();
        Matcher quoted = QUOTED.matcher(text);
        while (quoted.find()) {
            if (quoted.group(1).matches("\\w+Test")) {
                told.add(quoted.group(1));
            }
        }
        Set<String> there = new TreeSet<>();
        try (Stream<Path> files = Files.list(TESTS)) {
            files.map(file -> file.getFileName().toString()).filter(name -> name.endsWith("Test.java"))
                .forEach(name -> there.add(name.substring(0, name.length() - ".java".length())));
        }
        CHECK.due("the tests that it tells", there.toString(), told.toString());
    }
}
