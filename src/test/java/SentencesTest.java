/** Every sentence of the document, with its edges: too small, too large, empty, full, past an int's end, refused. */
public final class SentencesTest {
    public static void main(String[] args) throws Exception {
        EdgesOfRows.all();
        EdgesOfTexts.all();
        EdgesOfGates.all();
        EdgesOfDeeds.all();
        EdgesAhead.all();
        EdgesSeen.all();
        EdgesOfChances.all();
        EdgesTold.all();
        Sentences.compareWithDocument();
        Due.end();
    }
}
