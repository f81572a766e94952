import java.io.File;
import java.io.IOException;
import java.nio.file.Files;
import java.nio.file.Path;
import java.util.ArrayList;
import java.util.Comparator;
import java.util.List;
import java.util.stream.Stream;

/** .ci/run on small projects of its own: it passes if all tests pass, and fails if one fails or is missing. */
public final class CiTest {
    private static final Check CHECK = new Check();
    private static final Path SCRIPT = Path.of(".ci/run");
    private static final Path MAIN = Path.of("src/main/java/RubbingMirrors.java");

    private static final String PASSES = "System.exit(new RubbingMirrors(4).forget());";
    private static final String FAILS = "System.exit(1);";
    private static final String THROWS = "throw new IllegalStateException();";
    private static final String DOES_NOT_COMPILE = "no Java";
    private static final String MISSING = null;

    private record Trial(String what, boolean passes, Path dir, Process process) {
    }

    public static void main(String[] args) throws Exception {
        List<Trial> trials = new ArrayList<>();
        String good = Files.readString(MAIN);
        // All are begun before the first is waited for: each takes its seconds.
        trials.add(begin("all pass", true, good, PASSES, PASSES));
        trials.add(begin("a test of the project fails", false, good, FAILS, PASSES));
        trials.add(begin("a test of the project throws", false, good, THROWS, PASSES));
        trials.add(begin("a test of the project does not compile", false, good, DOES_NOT_COMPILE, PASSES));
        trials.add(begin("no test of the project", false, good, MISSING, PASSES));
        trials.add(begin("a shared test fails", false, good, PASSES, FAILS));
        trials.add(begin("a shared test throws", false, good, PASSES, THROWS));
        trials.add(begin("a shared test does not compile", false, good, PASSES, DOES_NOT_COMPILE));
        trials.add(begin("no shared test", false, good, PASSES, MISSING));
        trials.add(begin("the class does not compile", false, good + "}", PASSES, PASSES));
        for (Trial trial : trials) {
            end(trial);
        }
        CHECK.end();
    }

    /** A second test of each kind passes behind the first, so that a failure must be remembered. */
    private static Trial begin(String what, boolean passes, String source, String projectTest, String sharedTest)
            throws IOException {
        Path dir = Files.createTempDirectory("ci");
        write(dir.resolve("main/src/main/java/RubbingMirrors.java"), source);
        writeTest(dir.resolve("main/src/test/java"), "ATest", projectTest);
        writeTest(dir.resolve("main/src/test/java"), "BTest", projectTest == MISSING ? MISSING : PASSES);
        writeTest(dir.resolve("shared/tests"), "AShared", sharedTest);
        writeTest(dir.resolve("shared/tests"), "BShared", sharedTest == MISSING ? MISSING : PASSES);
        write(dir.resolve("main/.ci/run"), Files.readString(SCRIPT));
        Process process = new ProcessBuilder("sh", "main/.ci/run").directory(dir.toFile()).redirectErrorStream(true)
            .redirectOutput(dir.resolve("told").toFile()).start();
        return new Trial(what, passes, dir, process);
    }

    private static void writeTest(Path dir, String name, String body) throws IOException {
        Files.createDirectories(dir);
        if (body != MISSING) {
            write(dir.resolve(name + ".java"),
                "public class " + name + " {\npublic static void main(String[] args) {\n" + body + "\n}\n}\n");
        }
    }

    private static void write(Path file, String text) throws IOException {
        Files.createDirectories(file.getParent());
        Files.writeString(file, text);
    }

    private static void end(Trial trial) throws Exception {
        boolean passed = trial.process().waitFor() == 0;
        String told = Files.readString(trial.dir().resolve("told"));
        CHECK.due(trial.what() + ": " + told, trial.passes() ? "passes" : "fails", passed ? "passes" : "fails");
        if (trial.passes()) {
            CHECK.due(trial.what() + ": all four ran", 1, told.contains("4 tests ran") ? 1 : 0);
        }
        remove(trial.dir());
    }

    private static void remove(Path dir) throws IOException {
        try (Stream<Path> all = Files.walk(dir)) {
            all.sorted(Comparator.reverseOrder()).map(Path::toFile).forEach(File::delete);
        }
    }
}
