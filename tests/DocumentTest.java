import java.io.IOException;

/** The document, promises 1 to 32, read from its first line on: each sentence, or part of one, stands in
 *  tests/document in its words, with a test that fails if it is broken, under the promise it belongs to. */
public final class DocumentTest {
    public static void main(String[] args) throws IOException {
        Says.begin();
        SaysFirst.whatItIs();
        SaysFirst.thePublicFace();
        SaysTerms.all();
        SaysFirst.theConstants();
        SaysSheets.all();
        SaysRows.all();
        SaysPacks.all();
        SaysFirst.notPromised();
        Says.end();
    }
}
