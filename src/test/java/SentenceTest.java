import java.io.IOException;

/**
 * Every sentence of the document, each with runs of its own: the last values inside and the first
 * ones outside, empty and full tables and lists, and refused calls, which must leave all as it was.
 */
public final class SentenceTest {
    public static void main(String[] args) throws IOException {
        Document document = new Document();
        TermSentences.hold(document);
        MergeSentences.hold(document);
        FillSentences.hold(document);
        ReadSentences.hold(document);
        ForkSentences.hold(document);
        ConflictSentences.hold(document);
        document.dueAllQuoted();
        Check.end();
    }
}
