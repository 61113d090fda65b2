import java.io.IOException;
import java.lang.reflect.Method;
import java.lang.reflect.Modifier;
import java.util.function.IntToLongFunction;

/** What the tests of the document's sentences have in common. */
abstract class Says {
    static final int LEAST = Integer.MIN_VALUE;
    static final int GREATEST = Integer.MAX_VALUE;
    static final int BAD = WaveBuoys.BAD;
    static final int NO = WaveBuoys.NO;
    static final int NONE = WaveBuoys.NONE;
    static final int NOTHING = WaveBuoys.NOTHING;
    static final int UNLIKE = WaveBuoys.UNLIKE;
    static final int SIZE = WaveBuoys.SIZE;
    static final int PLACE = WaveBuoys.PLACE;
    static final int WIDE = WaveBuoys.WIDE;
    static final int LOST = WaveBuoys.LOST;
    static final int FAR = WaveBuoys.FAR;
    static final long FAILED = WaveBuoys.FAILED;
    static final long MOST = 4000000000000000L;
    static final long MOST_SUMMED = 4000000000L;
    static final long MOST_SQUARED = 200000000L;
    static final int[] NO_SHEETS = {-1, 8, LEAST, GREATEST};
    static final int[] NO_ROWS = {-1, 6, LEAST, GREATEST};
    static final int[] NO_PLACES_OF_THREE = {-1, 3, 63, 64, LEAST, GREATEST};
    static final int[][] ENDS = {{-128, 127}, {-32768, 32767}, {LEAST, GREATEST}};
    static final Due DUE = new Due();
    private static Document doc;

    static void begin() throws IOException {
        doc = new Document(DUE);
    }

    static void end() {
        doc.end();
        DUE.end();
    }

    /** A heading, or a sentence that asks nothing of the class. */
    static void reads(String words) {
        doc.reads(words);
    }

    /** A sentence, or a part of one, and the test that fails if it is broken. */
    static void says(String words, Runnable test) {
        doc.says(words, test);
    }

    /** The heading of a promise, and its call as it stands on the face. */
    static void promise(int number, String name, String call) {
        DUE.promise(number, name);
        doc.reads("## Promise " + number + ": " + name);
        says("`" + call + "`:", () -> DUE.holds("the face has it", isOnTheFace(call)));
    }

    static boolean isOnTheFace(String call) {
        for (Method m : WaveBuoys.class.getDeclaredMethods()) {
            StringBuilder types = new StringBuilder();
            for (Class<?> type : m.getParameterTypes()) {
                types.append(types.length() > 0 ? ", " : "").append(type.getSimpleName());
            }
            String told = m.getReturnType().getSimpleName() + " " + m.getName() + "(" + types + ")";
            boolean open = Modifier.isPublic(m.getModifiers()) && !Modifier.isStatic(m.getModifiers());
            if (open && told.equals(call.replaceAll("(int|long) \\w+([,)])", "$1$2"))) {
                return true;
            }
        }
        return false;
    }

    /** A call answers the same for each of these. */
    static void each(String call, long want, IntToLongFunction answer, int... of) {
        for (int v : of) {
            DUE.is(call + ", of " + v, answer.applyAsLong(v), want);
        }
    }

    /** The calls on a SHEET k alone, each with numbers that are as told. */
    static void eachCall(long want, WaveBuoys x, int... sheets) {
        each("drop", want, k -> x.drop(k), sheets);
        each("put", want, k -> x.put(k, 0, 0), sheets);
        each("get", FAILED + want, k -> x.get(k, 0), sheets);
        each("lose", want, k -> x.lose(k, 0), sheets);
        each("stands", want, k -> x.stands(k, 0), sheets);
        each("copy from", want, k -> x.copy(k, 0, 2, 0, 0), sheets);
        each("copy to", want, k -> x.copy(2, 0, k, 0, 0), sheets);
        each("spikes", want, k -> x.spikes(k, 0), sheets);
        each("fill", want, k -> x.fill(k, 0), sheets);
        each("about", want, k -> x.about(k, 0), sheets);
        each("raise", want, k -> x.raise(k, 0), sheets);
        each("send", want, k -> x.send(k), sheets);
    }

    static void words(String what, WaveBuoys x, int k, String want) {
        DUE.is(what + ": SHEET " + k, Made.words(x, k), want);
    }

    static void numbers(String what, WaveBuoys x, int row, long... want) {
        DUE.is(what + ": ROW " + row, Made.numbers(x, row), Made.numbers(want));
    }

    static long[] of(long... numbers) {
        return numbers;
    }

    /** n numbers, 0 but for one. */
    static long[] one(int n, int at, long v) {
        long[] numbers = Made.all(n, 0);
        numbers[at] = v;
        return numbers;
    }

    static WaveBuoys rows(long[] first, long[] second) {
        WaveBuoys x = Made.row(first);
        Made.row(x, 1, second);
        return x;
    }

    static WaveBuoys rows(long[] first, long[] second, long[] third) {
        WaveBuoys x = rows(first, second);
        Made.row(x, 2, third);
        return x;
    }

    /** n words, of SAMPLES that all differ: told ones, LOST ones and FILLED ones. */
    static String mixedWords(int n) {
        StringBuilder words = new StringBuilder();
        for (int i = 0; i < n; i++) {
            String word = i % 5 == 3 ? "-" : (i % 7 == 2 ? "f" : "") + (i * 53 % 211 - 100);
            words.append(i > 0 ? " " : "").append(word);
        }
        return words.toString();
    }

    /** What is RECEIVED of SHEET 0 in SHEET 7, when these PACKS are LOST. */
    static String received(WaveBuoys x, int... lost) {
        x.send(0);
        for (int p : lost) {
            x.miss(p);
        }
        x.receive(7);
        return Made.words(x, 7);
    }

    /** Words with those of from up to just ahead of to LOST. */
    static String without(String words, int from, int to) {
        String[] word = words.split(" ");
        for (int i = from; i < to; i++) {
            word[i] = "-";
        }
        return String.join(" ", word);
    }

    static void spikes(int sort, String from, int d, int want, String becomes) {
        WaveBuoys x = Made.sheet(sort, from);
        DUE.is("spikes by " + d + " of " + from, x.spikes(0, d), want);
        words("spikes by " + d + " of " + from, x, 0, becomes);
    }

    static void filled(int sort, String from, int m, int want, String becomes) {
        WaveBuoys x = Made.sheet(sort, from);
        DUE.is("fill to " + m + " of " + from, x.fill(0, m), want);
        words("fill to " + m + " of " + from, x, 0, becomes);
    }

    /** A ROW of its own becomes what a turn makes of it. */
    static void turned(int how, long[] from, long... want) {
        WaveBuoys x = Made.row(from);
        DUE.is("turn(0, " + how + ") of " + Made.numbers(from), x.turn(0, how), want.length);
        numbers("turned", x, 0, want);
    }

    /** THIRD of WAVES with these HEIGHTS. */
    static void third(String what, long above, long below, long... heights) {
        WaveBuoys x = Made.row(Made.heights(heights));
        DUE.is(what + ": above", x.third(0, 0), above);
        DUE.is(what + ": below", x.third(0, 1), below);
    }

    static WaveBuoys ruled(int on, int off, int hold) {
        WaveBuoys x = new WaveBuoys();
        x.rule(on, off, hold);
        return x;
    }

    static WaveBuoys moored(int x, int y, int r, int m) {
        WaveBuoys buoys = new WaveBuoys();
        buoys.anchor(x, y, r, m);
        return buoys;
    }
}
