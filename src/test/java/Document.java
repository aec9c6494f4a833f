import java.io.IOException;
import java.nio.file.Files;
import java.nio.file.Path;
import java.util.ArrayList;
import java.util.LinkedHashSet;
import java.util.List;
import java.util.Set;

/** The sentences of the document that a script must stand for: those of the Terms and of the promises. */
final class Document {
    private static final Path TEXT = Path.of("../shared/DOC.md");
    private static final String WHAT_IT_IS = "What it is";
    private static final String TERMS = "Terms";
    private static final String PROMISE = "Promise ";

    private final Set<String> sentences = new LinkedHashSet<>();
    private String place = "";

    private Document() {
    }

    /** Reports each sentence without a script, and each script whose sentence is not the document's. */
    static void compareWithScripts() throws IOException {
        if (!Files.exists(TEXT)) {
            System.out.println("there is no " + TEXT + ": the sentences were not compared with it");
            return;
        }
        Document document = new Document();
        for (String line : Files.readAllLines(TEXT)) {
            document.read(line.trim());
        }
        for (String sentence : document.sentences) {
            if (!Script.named().contains(sentence)) {
                Check.report("no script for the sentence\n  " + sentence);
            }
        }
        for (String named : Script.named()) {
            if (!document.sentences.contains(named)) {
                Check.report("not a sentence of the document\n  " + named);
            }
        }
    }

    private void read(String line) {
        if (line.startsWith("## ")) {
            String heading = line.substring(3);
            place = heading.startsWith(PROMISE) ? heading.substring(0, heading.indexOf(':')) : heading;
        } else if (!line.isEmpty() && !line.startsWith("#")) {
            for (String sentence : sentencesOf(line)) {
                sentences.add(Script.key(place, sentence));
            }
        }
    }

    private List<String> sentencesOf(String line) {
        List<String> found = new ArrayList<>();
        if (place.startsWith(PROMISE)) {
            // The first line of a promise begins with the method, each of its arguments with a dash.
            String text = line.startsWith("- ") ? line.substring(2) : line.replaceFirst("^`[^`]*\\(.*?`: ", "");
            found.add(text);
        } else if (place.equals(TERMS) || place.equals(WHAT_IT_IS)) {
            for (String sentence : line.replaceFirst("^\\d\\. ", "").split("(?<=\\.) (?=[A-Z])")) {
                if (isAboutCalls(sentence)) {
                    found.add(sentence);
                }
            }
        }
        return found;
    }

    /** All but what the document says about itself, which no call can show. */
    private static boolean isAboutCalls(String sentence) {
        return !sentence.equals("An archive of speedruns.") && !sentence.startsWith("Ahead of the calls ")
            && !sentence.startsWith("Levels are rows of columns ");
    }
}
