/**
 * A test of its own for each sentence of the document that names a boundary case. Each block begins with the promise
 * (or the section of the terms) and the words of the sentence; a failure tells both.
 */
public final class SentenceTest {
    private SentenceTest() {
    }

    public static void main(String[] args) {
        TextSentences.all();
        CallSentences.all();
        ContractSentences.all();
        TellingSentences.all();
        ActionSentences.all();
        QuestionSentences.all();
        ScriptSentences.all();
        SlotSentences.all();
        Document.checkThatAllIsNamed();
        Checks.end("SentenceTest");
    }
}
