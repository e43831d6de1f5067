/**
 * Each sentence of the document has a test that says in the document's words which sentence it holds; and each
 * word of the document's terms and promises is quoted by one.
 */
public final class SentencesTest {
    public static void main(String[] args) {
        StreetSentences.hold();
        CrySentences.hold();
        VendorSentences.hold();
        WindowSentences.hold();
        HourSentences.hold();
        LawSentences.hold();
        TapeSentences.hold();
        SumSentences.hold();
        OrderSentences.hold();
        Sentences.allAreHeld();
        Script.finish("SentencesTest");
    }
}
