import java.io.IOException;
import java.nio.file.Files;
import java.nio.file.Path;

/** Reads ../shared/DOC.md from its first line on, each sentence with the test that would fail if it
 *  were broken: no sentence can be left out, and none can stand in another order. */
final class Document {
    private static final Path PLACE = Path.of("..", "shared", "DOC.md");

    private final Due due;
    private final String text;
    private int at;
    private int tested;

    Document(Due due) throws IOException {
        this.due = due;
        text = Files.isReadable(PLACE) ? Files.readString(PLACE).replaceAll("\\s+", " ").trim() : "";
        if (text.isEmpty()) {
            System.out.println(PLACE + " can't be read: the tests run without it");
        }
    }

    /** A sentence, or a part of one, that the class could break. */
    void says(String words, Runnable test) {
        reads(words);
        due.sentence(words);
        int asked = due.asked();
        try {
            test.run();
        } catch (RuntimeException thrown) {
            due.is("what is thrown", thrown.toString(), "nothing");
        }
        due.holds("its test asks something", due.asked() > asked);
        due.sentence("");
        tested++;
    }

    /** A heading, or a sentence that asks nothing of the class. */
    void reads(String words) {
        if (text.isEmpty()) {
            return;
        }
        if (!text.startsWith(words, at)) {
            due.is("the document's next words", text.substring(at, Math.min(at + words.length(), text.length())), words);
            int next = text.indexOf(words, at);
            at = next < 0 ? at : next;
        }
        if (text.startsWith(words, at)) {
            at += words.length();
            at += at < text.length() && text.charAt(at) == ' ' ? 1 : 0;
        }
    }

    void end() {
        due.is("what is left of the document", text.substring(Math.min(at, text.length())), "");
        System.out.println(tested + " sentences and parts of sentences were tested");
    }
}
