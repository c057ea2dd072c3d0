/** Each sentence of the document has a test of its own, and holds. */
public final class SentencesTest {
    public static void main(String[] args) {
        Check.watch();
        TermsSentences.all();
        GrammarSentences.all();
        ExceptionsSentences.all();
        WicksSentences.all();
        ClothSentences.all();
        PatternsSentences.all();
        TextsSentences.all();
        UndoSentences.all();
        Sentences.requireAllQuoted();
        Check.end();
    }
}
