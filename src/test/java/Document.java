import java.io.IOException;
import java.nio.file.Files;
import java.nio.file.Path;
import java.util.ArrayList;
import java.util.LinkedHashSet;
import java.util.List;
import java.util.Set;

/** What the document says: its face, and the sentences of the Terms and of the promises, each with a script. */
final class Document {
    private static final Path TEXT = Path.of("../shared/DOC.md");
    private static final String WHAT_IT_IS = "What it is";
    private static final String TERMS = "Terms";
    private static final String PROMISE = "Promise ";
    private static final String AHEAD = "Ahead of the calls ";
    private static final String HEADING = "---- ";

    private final Set<String> sentences = new LinkedHashSet<>();
    private String place = "";

    private Document() {
    }

    /** Reports calls of the class that the document does not have, or not so, or not in this order, and the reverse. */
    static void compareWithFace() throws IOException {
        if (!Files.exists(TEXT)) {
            System.out.println("there is no " + TEXT + ": the face was not compared with it");
            return;
        }
        List<String> lines = Files.readAllLines(TEXT);
        List<Source.Call> due = new ArrayList<>();
        for (Source.Call call : Source.callsIn(lines)) {
            due.add(call.under(headingAheadOf(call.name(), lines)));
        }
        List<Source.Call> got = Source.calls();
        if (!got.equals(due)) {
            Check.report("SplitGate.java has " + got + ", due is " + due);
        }
    }

    private static String headingAheadOf(String name, List<String> lines) {
        for (String line : lines) {
            if (line.startsWith(AHEAD) && line.contains('`' + name + '`')) {
                return line.substring(line.indexOf(HEADING)).replaceFirst("\\.$", "");
            }
        }
        return "";
    }

    /** Reports each sentence without a script, and each script whose sentence is not the document's. */
    static void compareWithScripts() throws IOException {
        if (!Files.exists(TEXT)) {
            System.out.println("there is no " + TEXT + ": the sentences were not compared with it");
            return;
        }
        Document document = new Document();
        for (String line : Files.readAllLines(TEXT)) {
            document.read(line.trim());
        }
        for (String sentence : document.sentences) {
            if (!Script.named().contains(sentence)) {
                Check.report("no script for the sentence\n  " + sentence);
            }
        }
        for (String named : Script.named()) {
            if (!document.sentences.contains(named)) {
                Check.report("not a sentence of the document\n  " + named);
            }
        }
    }

    private void read(String line) {
        if (line.startsWith("## ")) {
            String heading = line.substring(3);
            place = heading.startsWith(PROMISE) ? heading.substring(0, heading.indexOf(':')) : heading;
        } else if (!line.isEmpty() && !line.startsWith("#")) {
            for (String sentence : sentencesOf(line)) {
                sentences.add(Script.key(place, sentence));
            }
        }
    }

    private List<String> sentencesOf(String line) {
        List<String> found = new ArrayList<>();
        if (place.startsWith(PROMISE)) {
            // The first line of a promise begins with the method, each of its arguments with a dash.
            String text = line.startsWith("- ") ? line.substring(2) : line.replaceFirst("^`[^`]*\\(.*?`: ", "");
            found.add(text);
        } else if (place.equals(TERMS) || place.equals(WHAT_IT_IS)) {
            for (String sentence : line.replaceFirst("^\\d\\. ", "").split("(?<=\\.) (?=[A-Z])")) {
                if (isAboutCalls(sentence)) {
                    found.add(sentence);
                }
            }
        }
        return found;
    }

    /** All but what the document says about itself, which no call can show. */
    private static boolean isAboutCalls(String sentence) {
        return !sentence.equals("An archive of speedruns.") && !sentence.startsWith(AHEAD)
            && !sentence.startsWith("Levels are rows of columns ");
    }
}
