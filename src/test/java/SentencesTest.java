import java.io.IOException;

/** A test for each sentence of ../shared/DOC.md, in its sections "Terms" and "Promise 1" to "Promise 28". */
public final class SentencesTest {
    public static void main(String[] args) throws IOException {
        Doc doc = new Doc();
        BlockSentences.all(doc);
        TickSentences.all(doc);
        TextSentences.all(doc);
        ViewSentences.all(doc);
        UndoSentences.all(doc);
        ActionSentences.all(doc);
        WouldBeSentences.all(doc);
        ScriptSentences.all(doc);
        SlotSentences.all(doc);
        doc.end();
        Check.end();
    }
}
