import java.io.IOException;
import java.nio.file.Files;
import java.nio.file.Path;
import java.util.regex.Matcher;
import java.util.regex.Pattern;

/** Rules of ../shared/LANGUAGE.md that the program's text shows; FaceTest has those that the compiled
 *  class shows. */
public final class LanguageTest {
    private static final Path SOURCE = Path.of("src", "main", "java", "WaveBuoys.java");
    private static final int LONGEST = 60;
    private static final Due DUE = new Due();

    public static void main(String[] args) throws IOException {
        String code = withoutComments(Files.readString(SOURCE));
        none("rule 0, no package", code, "(?m)^\\s*package\\b");
        none("rule 2, no lambda and no method reference", code, "->|::");
        none("rule 2, a class inside is static", code, "(?<!static final |static |public final |abstract )\\bclass\\b");
        none("rule 3, no other types", code, "\\b(Object|Map|Set|HashMap|Deque|Optional|var)\\b");
        none("rule 4, no other import", code, "\\bimport (?!java\\.util\\.(Arrays|ArrayList|List|Iterator);)");
        none("rule 4, of System just arraycopy", code, "\\bSystem\\.(?!arraycopy\\b)");
        none("rule 4, of Arrays just these", code, "\\bArrays\\.(?!(copyOf|copyOfRange|fill)\\b)");
        none("rule 4, nothing that throws in Math", code, "\\bMath\\.\\w+Exact\\b");
        none("rule 5, no static initialiser", code, "\\bstatic\\s*\\{");
        none("rule 6, no exceptions, locks, assert", code, "\\b(throw|throws|try|catch|finally|synchronized|volatile|assert)\\b");
        none("rule 9, no loop without an end", code, "for \\(;|for \\([^;]*; *;|while \\(true\\)");
        none("rule 10, no text joined by +", code, "\" *\\+|\\+ *\"");
        none("rule 13, no clock, chance, thread, file", code, "\\b(Random|Thread|File|Files|Instant|nanoTime|currentTimeMillis)\\b");
        none("nothing is left to do", code, "TODO|FIXME");
        lengths(code);
        DUE.end();
    }

    private static String withoutComments(String text) {
        return text.replaceAll("(?s)/\\*.*?\\*/", "").replaceAll("//[^\n]*", "");
    }

    private static void none(String rule, String code, String wrong) {
        Matcher found = Pattern.compile(wrong).matcher(code);
        DUE.is(rule, found.find() ? found.group() : "kept", "kept");
    }

    /** Rule 11: methods stay short. A method begins with a line that opens a brace behind its
     *  parameters, and ends with the brace that stands as far in. */
    private static void lengths(String code) {
        String[] lines = code.split("\n");
        Pattern opens = Pattern.compile("( +)(?:(?:public|private|static) )*[\\w\\[\\]]+(?: \\w+)?\\([^;]*\\) \\{");
        for (int i = 0; i < lines.length; i++) {
            Matcher begins = opens.matcher(lines[i]);
            if (begins.matches()) {
                int end = i + 1;
                while (end < lines.length && !lines[end].equals(begins.group(1) + "}")) {
                    end++;
                }
                DUE.holds("rule 11, short: " + lines[i].trim(), end - i < LONGEST);
            }
        }
        DUE.holds("methods were found", DUE.asked() > 60);
    }
}
