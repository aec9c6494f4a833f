import java.io.IOException;

/** Each sentence of the Terms and of the promises 1 to 23, with its edges and its refusals. */
public final class SentencesTest {
    public static void main(String[] args) throws IOException {
        LevelSentences.checkAll();
        TickSentences.checkAll();
        ReplaySentences.checkAll();
        RuleSentences.checkAll();
        BoardSentences.checkAll();
        MarathonSentences.checkAll();
        ExceptionSentences.checkAll();
        Document.compareWithScripts();
        System.out.println(Script.summary());
        Check.end();
    }
}
