import java.io.IOException;
import java.lang.reflect.Method;
import java.nio.file.Files;
import java.nio.file.Path;
import java.util.regex.Matcher;
import java.util.regex.Pattern;

/** README.md says how to use the class: each call that it shows answers what stands behind it. */
public final class ReadmeTest {
    private static final Pattern SHOWN = Pattern.compile("buoys\\.(\\w+)\\(([-\\d, ]*)\\); *// (-?\\d+).*");
    private static final Due DUE = new Due();

    public static void main(String[] args) throws Exception {
        WaveBuoys x = new WaveBuoys();
        int calls = 0;
        for (String line : lines()) {
            Matcher shown = SHOWN.matcher(line);
            if (shown.matches()) {
                String call = shown.group(1) + "(" + shown.group(2) + ")";
                DUE.is(call, answer(x, shown.group(1), shown.group(2)), Long.parseLong(shown.group(3)));
                calls++;
            } else {
                DUE.holds(line + " shows a call and its answer", !line.startsWith("buoys."));
            }
        }
        DUE.holds("README.md shows calls", calls > 0);
        System.out.println(calls + " calls are shown");
        DUE.end();
    }

    private static Iterable<String> lines() throws IOException {
        return Files.readAllLines(Path.of("README.md"));
    }

    private static long answer(WaveBuoys x, String name, String numbers) throws Exception {
        String[] words = numbers.isEmpty() ? new String[0] : numbers.split(", ");
        for (Method m : WaveBuoys.class.getMethods()) {
            if (m.getName().equals(name) && m.getParameterCount() == words.length) {
                Object[] given = new Object[words.length];
                for (int i = 0; i < words.length; i++) {
                    boolean wide = m.getParameterTypes()[i] == long.class;
                    given[i] = wide ? (Object) Long.valueOf(words[i]) : (Object) Integer.valueOf(words[i]);
                }
                return ((Number) m.invoke(x, given)).longValue();
            }
        }
        throw new IllegalArgumentException("the face has no " + name + " of " + words.length);
    }
}
