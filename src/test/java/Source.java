import java.io.IOException;
import java.nio.file.Files;
import java.nio.file.Path;
import java.util.ArrayList;
import java.util.List;
import java.util.regex.Matcher;
import java.util.regex.Pattern;

/** What the text of SplitGate.java tells: its public calls and the headings ahead of them, in their order. */
final class Source {
    private static final Path TEXT = Path.of("src/main/java/SplitGate.java");
    private static final Pattern CALL = Pattern.compile(
        "public (int|void|boolean) (\\w+)\\(([^)]*)\\) throws ([\\w, ]+)|// (---- [a-z ]+)");

    /** A public call: "rule", its parameters "int category, int day, ..", and "I A S" for its exceptions. */
    record Call(String result, String name, String parameters, String thrown, String heading) {
        /** The call as a caller writes it: "rule(category, day, ..)". */
        String written() {
            return name + "(" + parameters.replace("int ", "") + ")";
        }

        Call under(String otherHeading) {
            return new Call(result, name, parameters, thrown, otherHeading);
        }
    }

    private Source() {
    }

    static List<Call> calls() throws IOException {
        return callsIn(Files.readAllLines(TEXT));
    }

    /** The calls that some lines of Java declare; a heading is '// ---- ' and a text, and holds up to the next one. */
    static List<Call> callsIn(List<String> lines) {
        List<Call> calls = new ArrayList<>();
        String heading = "";
        Matcher found = CALL.matcher(joined(lines));
        while (found.find()) {
            if (found.group(5) != null) {
                heading = found.group(5).trim();
            } else {
                calls.add(new Call(found.group(1), found.group(2), found.group(3), letters(found.group(4)), heading));
            }
        }
        return calls;
    }

    /** One line, since a declaration may stand on two; a heading is cut off from what follows it. */
    private static String joined(List<String> lines) {
        StringBuilder text = new StringBuilder();
        for (String line : lines) {
            text.append(line.trim()).append(line.contains("// ----") ? " . " : " ");
        }
        return text.toString().replaceAll(" +", " ");
    }

    private static String letters(String thrown) {
        return thrown.trim().replace("IndexOutOfBoundsException", "I").replace("IllegalArgumentException", "A")
            .replace("IllegalStateException", "S").replace(",", "");
    }
}
