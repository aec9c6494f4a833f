import java.io.IOException;
import java.nio.file.Files;
import java.nio.file.Path;
import java.util.ArrayList;
import java.util.List;
import java.util.Set;
import java.util.TreeSet;
import java.util.regex.Matcher;
import java.util.regex.Pattern;
import java.util.stream.Stream;

/** README.md holds as it is written: its code, its table of calls, its list of tests and its commands. */
public final class ReadmeTest {
    private static final Path PAGE = Path.of("README.md");
    private static final Path TESTS = Path.of("src/test/java");
    private static final Path ALL_TESTS = Path.of(".ci/run");
    private static final Pattern CALL = Pattern.compile("\\| `(\\w+\\([^)]*\\))` \\| (.+) \\| (.+) \\|");
    private static final Pattern LETTER = Pattern.compile("(?:^|; )([IAS]): ");
    private static final Pattern TEST = Pattern.compile("- `(\\w+)`: .*");

    public static void main(String[] args) throws IOException, ReflectiveOperationException, InterruptedException {
        List<String> page = Files.readAllLines(PAGE);
        ReadmeProgram.check(joined(blocks(page, "java")));
        compareCalls(page);
        compareTests(page);
        runCommands(blocks(page, "sh"));
        Check.end();
    }

    /** The lines between ```kind and ```, block by block. */
    private static List<List<String>> blocks(List<String> page, String kind) {
        List<List<String>> blocks = new ArrayList<>();
        List<String> block = null;
        for (String line : page) {
            if (line.equals("```" + kind)) {
                block = new ArrayList<>();
                blocks.add(block);
            } else if (line.startsWith("```")) {
                block = null;
            } else if (block != null) {
                block.add(line);
            }
        }
        return blocks;
    }

    private static List<String> joined(List<List<String>> blocks) {
        List<String> lines = new ArrayList<>();
        blocks.forEach(lines::addAll);
        return lines;
    }

    /** Each call of the class has a row, in the same order, with the same parameters and exceptions. */
    private static void compareCalls(List<String> page) throws IOException {
        List<String> due = new ArrayList<>();
        for (Source.Call call : Source.calls()) {
            due.add(call.written() + " throws " + call.thrown());
        }
        List<String> got = new ArrayList<>();
        for (String line : page) {
            Matcher row = CALL.matcher(line);
            if (row.matches()) {
                got.add(row.group(1) + " throws " + letters(row.group(3)));
            }
        }
        if (!got.equals(due)) {
            Check.report("README.md: the calls are " + got + ", due is " + due);
        }
    }

    private static String letters(String thrown) {
        StringBuilder letters = new StringBuilder();
        Matcher letter = LETTER.matcher(thrown);
        while (letter.find()) {
            letters.append(letters.length() == 0 ? "" : " ").append(letter.group(1));
        }
        return letters.toString();
    }

    private static void compareTests(List<String> page) throws IOException {
        Set<String> got = new TreeSet<>();
        for (String line : page) {
            Matcher test = TEST.matcher(line);
            if (test.matches()) {
                got.add(test.group(1));
            }
        }
        Set<String> due = new TreeSet<>();
        try (Stream<Path> files = Files.list(TESTS)) {
            files.map(file -> file.getFileName().toString()).filter(name -> name.endsWith("Test.java"))
                .forEach(name -> due.add(name.replace(".java", "")));
        }
        if (!got.equals(due)) {
            Check.report("README.md: the tests are " + got + ", due is " + due);
        }
    }

    /** .ci/run is only looked at, since it runs this test. */
    private static void runCommands(List<List<String>> blocks) throws IOException, InterruptedException {
        Check.due("README.md: blocks of commands", blocks.size(), 2);
        for (List<String> block : blocks) {
            if (block.equals(List.of(ALL_TESTS.toString()))) {
                Check.due(ALL_TESTS + " can be run", Files.isExecutable(ALL_TESTS), true);
            } else {
                runCommands(String.join("\n", block));
            }
        }
    }

    private static void runCommands(String commands) throws IOException, InterruptedException {
        Process process = new ProcessBuilder("sh", "-e", "-c", commands).redirectErrorStream(true).start();
        List<String> printed = new String(process.getInputStream().readAllBytes()).lines().toList();
        boolean isDue = !printed.isEmpty() && printed.get(printed.size() - 1).equals("all answers are as due");
        if (process.waitFor() != 0 || !isDue) {
            Check.report("README.md: the commands\n" + commands + "\nprinted " + printed);
        }
    }
}
