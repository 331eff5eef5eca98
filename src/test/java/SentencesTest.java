import java.io.IOException;

/** Every sentence of the document's terms and promises has a test of its own, tied to its very words. */
public final class SentencesTest extends Sentences {
    public static void main(String[] args) throws IOException {
        readTheDocument();
        TermsSentences.all();
        RulesSentences.all();
        RefusalSentences.all();
        ListSentences.all();
        RunSentences.all();
        ThingSentences.all();
        everySentenceIsTested();
        end();
    }
}
