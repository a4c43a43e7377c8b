/**
 * A test for each sentence of the document, by promises and by the parts of its terms; the tests themselves are
 * in sentences/. That no sentence is without a test is looked up in ../shared/DOC.md.
 */
public final class SentenceTests {
    public static void main(String[] args) throws Exception {
        Book.open();
        RefusalSentences.holdAll();
        DaySentences.holdAll();
        FillSentences.holdAll();
        RoundSentences.holdAll();
        PlanSentences.holdAll();
        AskSentences.holdAll();
        if (Book.close() != 0) System.exit(1);
    }
}
