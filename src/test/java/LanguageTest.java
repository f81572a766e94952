import java.io.IOException;
import java.lang.reflect.Constructor;
import java.lang.reflect.Executable;
import java.lang.reflect.Field;
import java.lang.reflect.Method;
import java.lang.reflect.Modifier;
import java.nio.file.Files;
import java.nio.file.Path;
import java.util.ArrayList;
import java.util.List;
import java.util.Set;
import java.util.TreeSet;
import java.util.regex.Matcher;
import java.util.regex.Pattern;
import java.util.stream.Stream;

/** The rules of ../shared/LANGUAGE.md, as far as the file's text and its classes show them. */
public final class LanguageTest {
    private static final Check CHECK = new Check();
    private static final Path MAIN = Path.of("src/main/java");
    private static final Path SOURCE = MAIN.resolve("RubbingMirrors.java");
    private static final Set<Class<?>> CONSTANTS = Set.of(int.class, long.class, boolean.class, char.class,
        String.class);

    public static void main(String[] args) throws IOException {
        String source = Files.readString(SOURCE);
        String code = withoutRemarks(source);
        CHECK.sentence("The program is one file", LanguageTest::oneFile);
        CHECK.sentence("rule 4: only what stands here", () -> imports(code));
        CHECK.sentence("rules 2, 4, 6 and 13: what is not fine", () -> leftOut(code));
        CHECK.sentence("rule 6: throw new E(\"a written text\")", () -> thrown(code));
        CHECK.sentence("rule 11: methods stay short", () -> lengths(source));
        CHECK.sentence("rules 1, 2, 5 and 11: the classes", LanguageTest::classes);
        CHECK.end();
    }

    /** Texts become empty ones, and remarks go. */
    private static String withoutRemarks(String source) {
        return source.replaceAll("\"[^\"\n]*\"", "\"\"").replaceAll("(?s)/\\*.*?\\*/", "")
            .replaceAll("//[^\n]*", "");
    }

    private static void oneFile() {
        try (Stream<Path> files = Files.walk(MAIN)) {
            CHECK.due("files", List.of(SOURCE).toString(), files.filter(Files::isRegularFile).toList().toString());
        } catch (IOException e) {
            throw new IllegalStateException(e);
        }
    }

    private static void imports(String code) {
        Set<String> allowed = Set.of("java.util.ArrayList", "java.util.List", "java.util.Arrays",
            "java.util.Iterator", "java.util.NoSuchElementException");
        for (String name : found(code, "import\\s+([\\w.* ]+);")) {
            CHECK.due("import of " + name, 1, allowed.contains(name) ? 1 : 0);
        }
        CHECK.due("no package", List.of().toString(), found(code, "(?m)^(package)\\b").toString());
        CHECK.due("no names written out", List.of().toString(), found(code, "(?<!import )\\b(java\\.\\w+)").toString());
    }

    /** A catch would be fine by rule 6 in some places; the file needs none, so none can hide a fault of the machine. */
    private static void leftOut(String code) {
        String words = "(try|catch|finally|synchronized|assert|\\w+Exact|System\\.(?!arraycopy)\\w+|hashCode|toString"
            + "|getMessage|getClass|Thread|Random)";
        CHECK.due("words", List.of().toString(), found(code, "\\b" + words + "\\b").toString());
        CHECK.due("lambdas and references", List.of().toString(), found(code, "(->|::)").toString());
        CHECK.due("static blocks", List.of().toString(), found(code, "\\b(static\\s*\\{)").toString());
        CHECK.due("casts but of numbers", List.of().toString(),
            found(code, "(\\([A-Z]\\w*(?:\\[\\])?\\) ?[\\w(])").toString());
    }

    private static void thrown(String code) {
        Set<String> allowed = new TreeSet<>(Set.of("IllegalStateException", "IllegalArgumentException",
            "IndexOutOfBoundsException"));
        List<String> thrown = found(code, "throw new (\\w+)\\(\"?\"?\\);");
        CHECK.due("classes", allowed.toString(), new TreeSet<>(thrown).toString());
        CHECK.due("every throw has this form", found(code, "\\b(throw)\\b").size(), thrown.size());
    }

    private static List<String> found(String code, String pattern) {
        List<String> found = new ArrayList<>();
        Matcher matcher = Pattern.compile(pattern).matcher(code);
        while (matcher.find()) {
            found.add(matcher.group(1));
        }
        return found;
    }

    /** A method begins with a line that ends in "{" and ends with a "}" of the same depth. */
    private static void lengths(String source) {
        Pattern method = Pattern.compile("(?m)^( {4}| {8})(?! )(?!.*\\bclass\\b)[^\n]*\\([^;{]*\\{\n(?s:.*?)\n\\1\\}$");
        Matcher matcher = method.matcher(source);
        int methods = 0;
        while (matcher.find()) {
            methods++;
            long lines = matcher.group().lines().count();
            CHECK.due("short enough: " + matcher.group().lines().findFirst().orElse(""), 1, lines <= 60 ? 1 : 0);
        }
        CHECK.due("methods were found", 1, methods >= 17 ? 1 : 0);
    }

    private static void classes() {
        List<Class<?>> all = new ArrayList<>(List.of(RubbingMirrors.class.getDeclaredClasses()));
        for (Class<?> inside : all) {
            CHECK.due(inside + " is static", 1, Modifier.isStatic(inside.getModifiers()) ? 1 : 0);
            CHECK.due(inside + " is not open", 0, inside.getModifiers() & (Modifier.PUBLIC | Modifier.PROTECTED));
        }
        all.add(RubbingMirrors.class);
        CHECK.due("at most some twelve classes", 1, all.size() <= 12 ? 1 : 0);
        for (Class<?> each : all) {
            fields(each);
            for (Method m : each.getDeclaredMethods()) {
                parameters(m);
            }
            for (Constructor<?> c : each.getDeclaredConstructors()) {
                parameters(c);
            }
        }
    }

    private static void fields(Class<?> of) {
        int own = 0;
        for (Field f : of.getDeclaredFields()) {
            if (Modifier.isStatic(f.getModifiers())) {
                CHECK.due(f + " is a constant", 1,
                    Modifier.isFinal(f.getModifiers()) && CONSTANTS.contains(f.getType()) ? 1 : 0);
            } else {
                own++;
            }
        }
        CHECK.due("at most some twenty fields of " + of, 1, own <= 20 ? 1 : 0);
    }

    private static void parameters(Executable called) {
        CHECK.due("at most seven parameters of " + called, 1, called.getParameterCount() <= 7 ? 1 : 0);
    }
}
