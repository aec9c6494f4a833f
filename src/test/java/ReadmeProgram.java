import java.io.IOException;
import java.lang.reflect.InvocationTargetException;
import java.net.URL;
import java.net.URLClassLoader;
import java.nio.file.Files;
import java.nio.file.Path;
import java.util.List;
import java.util.regex.Matcher;
import java.util.regex.Pattern;
import javax.tools.ToolProvider;

/**
 * The Java code of a page, compiled and run as it stands, and once more with each answer compared to its comment.
 *
 * <p>Public, as are the comparisons: the code is loaded apart from the tests, and sees of them only what is public.
 */
public final class ReadmeProgram {
    private static final Pattern ANSWER = Pattern.compile(
        "\\s*(?:(?:int|boolean) (\\w+) = )?(.*);\\s*// (-?\\d+|true|false)(?:: .*)?");
    private static final Pattern THROWS = Pattern.compile("\\s*(.*;)\\s*// throws (\\w+)(?:: .*)?");

    /** How many answers the compared program has come by; it counts them itself. */
    private static int compared = 0;

    private ReadmeProgram() {
    }

    static void check(List<String> lines) throws IOException, ReflectiveOperationException {
        run("ReadmeAsItStands", String.join("\n", lines));
        StringBuilder code = new StringBuilder();
        int answers = 0;
        for (String line : lines) {
            String comparing = comparing(line);
            answers += comparing.equals(line) ? 0 : 1;
            code.append(comparing).append('\n');
        }
        compared = 0;
        run("ReadmeCompared", code.toString());
        Check.due("README.md: answers that the program comes by", compared, answers);
        Check.due("README.md has answers", answers > 0, true);
    }

    /** The line, and behind it, or in its place, a comparison with the comment. */
    private static String comparing(String line) {
        Matcher thrown = THROWS.matcher(line);
        if (thrown.matches()) {
            return "try { " + thrown.group(1) + " ReadmeProgram.threw(" + text(line) + ", null, " + text(thrown.group(2)) + "); }"
                + " catch (RuntimeException e) { ReadmeProgram.threw(" + text(line) + ", e, " + text(thrown.group(2)) + "); throw e; }";
        }
        Matcher answer = ANSWER.matcher(line);
        if (!answer.matches()) {
            return line;
        }
        boolean isKept = answer.group(1) != null;
        String got = isKept ? answer.group(1) : answer.group(2);
        return (isKept ? line + "\n" : "") + "ReadmeProgram.answered(" + text(line) + ", " + got + ", " + answer.group(3) + ");";
    }

    private static String text(String line) {
        return '"' + line.trim().replace("\\", "\\\\").replace("\"", "\\\"") + '"';
    }

    public static void answered(String line, long got, long due) {
        compared++;
        Check.due("README.md: " + line, got, due);
    }

    public static void answered(String line, boolean got, boolean due) {
        compared++;
        Check.due("README.md: " + line, got, due);
    }

    public static void threw(String line, RuntimeException got, String due) {
        compared++;
        if (got == null || !got.getClass().getSimpleName().equals(due) || !Check.isThrownByTheProgram(got, got.getClass())) {
            Check.report("README.md: " + line + " threw " + got);
        }
    }

    private static void run(String name, String code) throws IOException, ReflectiveOperationException {
        Path folder = Files.createTempDirectory("readme");
        Path source = folder.resolve(name + ".java");
        Path compiled = folder.resolve(name + ".class");
        try {
            Files.writeString(source, "public final class " + name + " {\npublic static void run() {\n" + code + "\n}\n}\n");
            int failed = ToolProvider.getSystemJavaCompiler().run(null, System.out, System.out,
                "--release", "17", "-cp", System.getProperty("java.class.path"), "-d", folder.toString(), source.toString());
            Check.due("README.md: its code compiles", failed == 0, true);
            if (failed == 0) {
                runCompiled(name, folder);
            }
        } finally {
            Files.deleteIfExists(source);
            Files.deleteIfExists(compiled);
            Files.deleteIfExists(folder);
        }
    }

    private static void runCompiled(String name, Path folder) throws IOException, ReflectiveOperationException {
        try (URLClassLoader loader = new URLClassLoader(new URL[] {folder.toUri().toURL()})) {
            loader.loadClass(name).getMethod("run").invoke(null);
        } catch (InvocationTargetException e) {
            Check.report("README.md: its code threw " + e.getCause());
        }
    }
}
