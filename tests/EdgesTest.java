/** Every sentence of the document that names a boundary case has a test of its own, in tests/edges. */
public final class EdgesTest {
    public static void main(String[] args) {
        SettingsEdges.all();
        DictionaryEdges.all();
        EncodingEdges.all();
        DecodingEdges.all();
        TextEdges.all();
        ChangeEdges.all();
        CallEdges.all();
        AnswerEdges.all();
        WrittenEdges.all();
        DecodedEdges.all();
        Sentences.allAreTested();
        Check.finish();
    }
}
