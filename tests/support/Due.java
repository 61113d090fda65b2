import java.lang.reflect.Method;
import java.util.Arrays;
import java.util.Comparator;

/** Counts the answers that are not the ones that are due, and prints each. */
final class Due {
    private int wrong;
    private int asked;
    private String promise = "";
    private String sentence = "";

    void promise(int number, String name) {
        promise = "promise " + number + " (" + name + "): ";
    }

    /** Runs the tests of a class, those whose names begin with p and the number of their promise
     *  (p08..), in the order of their names; each promise from first to last must have one. */
    void runEach(Class<?> tests, int first, int last) throws Exception {
        Method[] methods = tests.getDeclaredMethods();
        Arrays.sort(methods, Comparator.comparing(Method::getName));
        int[] found = new int[100];
        int many = 0;
        for (Method m : methods) {
            if (m.getName().matches("p\\d\\d[A-Z].*")) {
                promise = m.getName() + ": ";
                m.setAccessible(true);
                m.invoke(null);
                found[Integer.parseInt(m.getName().substring(1, 3))]++;
                many++;
            }
        }
        promise = "";
        for (int p = first; p <= last; p++) {
            holds("promise " + p + " has tests", found[p] > 0);
        }
        System.out.println(many + " tests were run");
    }

    /** What the document says, ahead of the calls that test it. */
    void sentence(String words) {
        sentence = words.isEmpty() ? "" : "'" + words + "' ";
    }

    /** How many answers were looked at. */
    int asked() {
        return asked;
    }

    void is(String call, long got, long want) {
        asked++;
        if (got != want) {
            wrong++;
            System.out.println(promise + sentence + call + " answered " + got + ", due is " + want);
        }
    }

    void is(String what, String got, String want) {
        asked++;
        if (!got.equals(want)) {
            wrong++;
            System.out.println(promise + sentence + what + " is " + got + ", due is " + want);
        }
    }

    void failed(String call, long got, int want) {
        is(call, got, WaveBuoys.FAILED + want);
    }

    void holds(String what, boolean answer) {
        is(what, answer ? 1 : 0, 1);
    }

    void end() {
        System.out.println(wrong == 0 ? "all answers are as due" : wrong + " answers are not as due");
        if (wrong != 0) {
            System.exit(1);
        }
    }
}
