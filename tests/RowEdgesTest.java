import java.math.BigInteger;

/** Promises 12 to 23: a test of its own for each sentence that names a boundary case; each name begins
 *  with the number of its promise, and the sentence stands above it where the name does not tell it. */
public final class RowEdgesTest {
    private static final int LEAST = Integer.MIN_VALUE;
    private static final int GREATEST = Integer.MAX_VALUE;
    private static final int NONE = WaveBuoys.NONE;
    private static final int BAD = WaveBuoys.BAD;
    private static final int NO = WaveBuoys.NO;
    private static final int NOTHING = WaveBuoys.NOTHING;
    private static final int PLACE = WaveBuoys.PLACE;
    private static final int LOST = WaveBuoys.LOST;
    private static final int FAR = WaveBuoys.FAR;
    private static final long MOST = 4000000000000000L;
    private static final long MOST_SUMMED = 4000000000L;
    private static final long MOST_SQUARED = 200000000L;
    private static final int LEVEL = 0;
    private static final int FLAT = 1;
    private static final int TWICE = 2;
    private static final int TONES = 3;
    private static final int[] NO_SHEETS = {-1, 8, LEAST, GREATEST};
    private static final int[] NO_ROWS = {-1, 6, LEAST, GREATEST};
    private static final Due DUE = new Due();

    public static void main(String[] args) throws Exception {
        DUE.runEach(RowEdgesTest.class, 12, 23);
        DUE.end();
    }

    private static void dueRow(String what, WaveBuoys x, int row, long... numbers) {
        DUE.is(what, Made.numbers(x, row), Made.numbers(numbers));
    }

    // ---- promise 12: raise

    static void p12SheetsFrom0To7() {
        WaveBuoys x = new WaveBuoys();
        Made.sheet(x, 0, 1, "4 5");
        Made.sheet(x, 7, 1, "6");
        for (int k : NO_SHEETS) {
            DUE.is("raise of " + k, x.raise(k, 0), BAD);
        }
        DUE.is("the least", x.raise(0, 0), 2);
        dueRow("its ROW", x, 0, 4, 5);
        DUE.is("the greatest", x.raise(7, 0), 1);
        dueRow("its ROW", x, 0, 6);
    }

    static void p12RowsFrom0To5() {
        WaveBuoys x = Made.sheet(1, "4 5");
        for (int row : NO_ROWS) {
            DUE.is("raise to " + row, x.raise(0, row), BAD);
        }
        DUE.is("the least", x.raise(0, 0), 2);
        DUE.is("the greatest", x.raise(0, 5), 2);
        dueRow("ROW 0", x, 0, 4, 5);
        dueRow("ROW 5", x, 5, 4, 5);
        dueRow("ROW 1", x, 1);
    }

    static void p12MissingIsNothing() {
        DUE.is("missing", Made.sheet(1, "4 5").raise(1, 0), NOTHING);
    }

    static void p12BadAheadOfNothing() {
        DUE.is("missing, ROW 6", new WaveBuoys().raise(0, 6), BAD);
        DUE.is("missing, ROW -1", new WaveBuoys().raise(7, -1), BAD);
    }

    static void p12BadAheadOfLost() {
        DUE.is("LOST, ROW 6", Made.sheet(1, "-").raise(0, 6), BAD);
    }

    /** LOST: a SAMPLE that is needed is LOST. */
    static void p12OneLostIsLost() {
        DUE.is("the first", Made.sheet(1, "- 2 3").raise(0, 0), LOST);
        DUE.is("the last", Made.sheet(1, "1 2 -").raise(0, 0), LOST);
        DUE.is("the only one", Made.sheet(1, "-").raise(0, 0), LOST);
        DUE.is("all", Made.sheet(1, "- - -").raise(0, 0), LOST);
    }

    static void p12LostOnesOfALongerOneThatWasAreNotNeeded() {
        WaveBuoys x = Made.sheet(1, "1 2 -");
        x.sheet(0, 1, 2);
        DUE.is("two", x.raise(0, 0), 2);
    }

    static void p12LostLeavesTheRow() {
        WaveBuoys x = Made.sheet(1, "1 2 3");
        x.raise(0, 2);
        Made.sheet(x, 0, 1, "9 -");
        DUE.is("LOST", x.raise(0, 2), LOST);
        dueRow("the ROW", x, 2, 1, 2, 3);
        x.raise(1, 2);
        dueRow("the ROW behind NOTHING", x, 2, 1, 2, 3);
    }

    static void p12None() {
        WaveBuoys x = Made.row(1, 2);
        x.sheet(0, 0, 0);
        DUE.is("no SAMPLES", x.raise(0, 0), 0);
        DUE.failed("no number", x.number(0, 0), PLACE);
    }

    static void p12All64() {
        WaveBuoys x = new WaveBuoys();
        x.sheet(0, 0, 64);
        x.put(0, 63, 9);
        DUE.is("64", x.raise(0, 0), 64);
        DUE.is("the last", x.number(0, 63), 9);
        DUE.failed("beyond it", x.number(0, 64), PLACE);
    }

    static void p12FewerThanTheRowHad() {
        WaveBuoys x = Made.row(1, 2, 3, 4);
        Made.row(x, 0, 5);
        dueRow("the ROW", x, 0, 5);
    }

    static void p12FilledOnesAreNumbers() {
        WaveBuoys x = Made.sheet(1, "f1 f2 3");
        DUE.is("three", x.raise(0, 0), 3);
        dueRow("the ROW", x, 0, 1, 2, 3);
    }

    static void p12TheLeastAndTheGreatestOfEachSort() {
        String[] ends = {"-128 127", "-32768 32767", "-2147483648 2147483647"};
        for (int sort = 0; sort < 3; sort++) {
            WaveBuoys x = Made.sheet(sort, ends[sort]);
            x.raise(0, 0);
            DUE.is("SORT " + sort, Made.numbers(x, 0), ends[sort]);
        }
    }

    // ---- promise 13: number

    static void p13RowsFrom0To5() {
        WaveBuoys x = Made.row(3);
        Made.row(x, 5, 4);
        DUE.is("the least", x.number(0, 0), 3);
        DUE.is("the greatest", x.number(5, 0), 4);
        for (int row : NO_ROWS) {
            DUE.failed("number of " + row, x.number(row, 0), BAD);
        }
    }

    static void p13FirstAndLastPlace() {
        WaveBuoys x = Made.row(3, 4, 5);
        DUE.is("first", x.number(0, 0), 3);
        DUE.is("last", x.number(0, 2), 5);
        int[] none = {-1, 3, 63, 64, LEAST, GREATEST};
        for (int i : none) {
            DUE.failed("place " + i, x.number(0, i), PLACE);
        }
    }

    static void p13NoPlaceInAnEmptyRow() {
        DUE.failed("place 0", Made.row(3).number(1, 0), PLACE);
    }

    static void p13BadAheadOfPlace() {
        DUE.failed("ROW 6, place -1", Made.row(3).number(6, -1), BAD);
    }

    static void p13TheGreatestNumbers() {
        WaveBuoys x = Made.row(MOST, -MOST);
        DUE.is("above 0", x.number(0, 0), MOST);
        DUE.is("below 0", x.number(0, 1), -MOST);
    }

    // ---- promise 14: turn

    static void p14RowsFrom0To5() {
        WaveBuoys x = Made.row(3, 5);
        Made.row(x, 5, 7, 4);
        for (int row : NO_ROWS) {
            DUE.is("turn of " + row, x.turn(row, LEVEL), BAD);
        }
        DUE.is("the least", x.turn(0, LEVEL), 2);
        DUE.is("the greatest", x.turn(5, LEVEL), 2);
        dueRow("ROW 0", x, 0, -2, 2);
        dueRow("ROW 5", x, 5, 3, -3);
    }

    static void p14HowFrom0To3() {
        WaveBuoys x = Made.row(3, 5);
        int[] bad = {-1, 4, LEAST, GREATEST};
        for (int how : bad) {
            DUE.is("how " + how, x.turn(0, how), BAD);
        }
        dueRow("the ROW", x, 0, 3, 5);
        DUE.is("how 0", x.turn(0, 0), 2);
        DUE.is("how 3", x.turn(0, 3), 2);
    }

    static void p14BadAheadOfNo() {
        DUE.is("ROW 6, FLAT", new WaveBuoys().turn(6, FLAT), BAD);
        DUE.is("an empty ROW, how 4", new WaveBuoys().turn(0, 4), BAD);
    }

    static void p14LevelOfNoneAndOne() {
        WaveBuoys x = new WaveBuoys();
        DUE.is("none", x.turn(0, LEVEL), 0);
        Made.row(x, 0, 7);
        DUE.is("one", x.turn(0, LEVEL), 1);
        dueRow("the ROW", x, 0, 0);
    }

    static void p14LevelOf64() {
        long[] numbers = Made.all(64, 0);
        numbers[63] = 1;
        WaveBuoys x = Made.row(numbers);
        DUE.is("64", x.turn(0, LEVEL), 64);
        numbers = Made.all(64, -1);
        numbers[63] = 63;
        dueRow("the ROW", x, 0, numbers);
    }

    /** FLAT, with n 2 or more. */
    static void p14FlatOfFewerThanTwo() {
        WaveBuoys x = Made.row(7);
        DUE.is("one", x.turn(0, FLAT), NO);
        dueRow("the ROW", x, 0, 7);
        DUE.is("none", x.turn(1, FLAT), NO);
    }

    static void p14FlatOfTwo() {
        WaveBuoys x = Made.row(7, -9);
        DUE.is("two", x.turn(0, FLAT), 2);
        dueRow("the ROW", x, 0, 0, 0);
    }

    /** TWICE, with n 2 or more. */
    static void p14TwiceOfFewerThanTwo() {
        WaveBuoys x = Made.row(7);
        DUE.is("one", x.turn(0, TWICE), NO);
        dueRow("the ROW", x, 0, 7);
        DUE.is("none", x.turn(1, TWICE), NO);
    }

    static void p14TwiceOfTwo() {
        WaveBuoys x = Made.row(7, -9);
        DUE.is("two", x.turn(0, TWICE), 2);
        dueRow("the ROW", x, 0, 0, 0);
    }

    static void p14TwiceEndsAtNought() {
        WaveBuoys x = Made.row(3, 1, 4, 1, 5);
        DUE.is("five", x.turn(0, TWICE), 5);
        // h is 0, 3, 7, 15, 24
        dueRow("the ROW", x, 0, 0, -12, -20, -12, 0);
    }

    /** TONES, for n 1, 2, 4, .. 64. */
    static void p14TonesOfEachNumberOfNumbers() {
        for (int n = 0; n <= 64; n++) {
            boolean told = n == 1 || n == 2 || n == 4 || n == 8 || n == 16 || n == 32 || n == 64;
            WaveBuoys x = Made.row(Made.all(n, 1));
            DUE.is("TONES of " + n, x.turn(0, TONES), told ? n : NO);
            long[] numbers = Made.all(n, told ? 0 : 1);
            if (told) {
                numbers[0] = n;
            }
            dueRow("the ROW of " + n, x, 0, numbers);
        }
    }

    static void p14TonesOfOne() {
        WaveBuoys x = Made.row(-7);
        DUE.is("one", x.turn(0, TONES), 1);
        dueRow("the ROW", x, 0, -7);
    }

    static void p14TonesOfTwo() {
        WaveBuoys x = Made.row(5, 3);
        DUE.is("two", x.turn(0, TONES), 2);
        dueRow("the ROW", x, 0, 8, 2);
    }

    static void p14TonesOfEightByTheirSigns() {
        String[] signs = {"++++++++", "++++----", "++----++", "++--++--", "+--++--+", "+--+-++-", "+-+--+-+", "+-+-+-+-"};
        WaveBuoys x = Made.row(1, 10, 100, 1000, 10000, 100000, 1000000, 10000000);
        x.turn(0, TONES);
        for (int k = 0; k < 8; k++) {
            long all = 0;
            long v = 1;
            for (int i = 0; i < 8; i++) {
                all += signs[k].charAt(i) == '+' ? v : -v;
                v *= 10;
            }
            DUE.is("number " + k, x.number(0, k), all);
        }
    }

    static void p14TonesTwiceAreNTimesTheRow() {
        for (int n = 1; n <= 64; n *= 2) {
            long[] numbers = new long[n];
            long[] times = new long[n];
            for (int i = 0; i < n; i++) {
                numbers[i] = i * i - 5;
                times[i] = n * numbers[i];
            }
            WaveBuoys x = Made.row(numbers);
            x.turn(0, TONES);
            x.turn(0, TONES);
            dueRow("the ROW of " + n, x, 0, times);
        }
    }

    /** None above 4000000000000000 in size. */
    static void p14LevelToTheGreatest() {
        WaveBuoys x = Made.row(MOST / 2, -MOST / 2);
        DUE.is("just the greatest", x.turn(0, LEVEL), 2);
        dueRow("the ROW", x, 0, MOST, -MOST);
    }

    static void p14LevelOneBeyondTheGreatestOfBothSides() {
        WaveBuoys x = Made.row(MOST / 2 + 1, -MOST / 2);
        DUE.is("one beyond", x.turn(0, LEVEL), FAR);
        dueRow("it stays", x, 0, MOST / 2 + 1, -MOST / 2);
    }

    static void p14LevelWithJustOneThatIsOneBeyondTheGreatest() {
        int[] sides = {1, -1};
        for (int side : sides) {
            for (int far = 0; far < 3; far++) {
                long[] numbers = Made.all(3, 0);
                numbers[far] = side * (MOST / 2);
                WaveBuoys x = Made.row(numbers);
                DUE.is("just the greatest at " + far, x.turn(0, LEVEL), 3);
                DUE.is("it", x.number(0, far), side * MOST);
                numbers[(far + 1) % 3] = -side;
                x = Made.row(numbers);
                DUE.is("one beyond at " + far, x.turn(0, LEVEL), FAR);
                dueRow("it stays", x, 0, numbers);
            }
        }
    }

    static void p14LevelOfOneThatIsTheGreatest() {
        WaveBuoys x = Made.row(-MOST);
        DUE.is("one", x.turn(0, LEVEL), 1);
        dueRow("the ROW", x, 0, 0);
    }

    static void p14LevelOfAllThatAreTheGreatest() {
        WaveBuoys x = Made.row(Made.all(64, MOST));
        DUE.is("64", x.turn(0, LEVEL), 64);
        dueRow("the ROW", x, 0, Made.all(64, 0));
    }

    static void p14TonesToTheGreatest() {
        int[] sides = {1, -1};
        for (int side : sides) {
            WaveBuoys x = Made.row(side * MOST / 2, side * MOST / 2);
            DUE.is("two", x.turn(0, TONES), 2);
            dueRow("the ROW", x, 0, side * MOST, 0);
            x = Made.row(side * MOST / 2, -side * MOST / 2);
            DUE.is("two of unlike SIDES", x.turn(0, TONES), 2);
            dueRow("the ROW", x, 0, 0, side * MOST);
            x = Made.row(side * MOST);
            DUE.is("one", x.turn(0, TONES), 1);
            dueRow("the ROW of one", x, 0, side * MOST);
        }
    }

    static void p14TonesOneBeyondTheGreatest() {
        int[] sides = {1, -1};
        for (int side : sides) {
            WaveBuoys x = Made.row(side * MOST / 2, side * (MOST / 2 + 1));
            DUE.is("the first", x.turn(0, TONES), FAR);
            dueRow("it stays", x, 0, side * MOST / 2, side * (MOST / 2 + 1));
            x = Made.row(side * MOST / 2, -side * (MOST / 2 + 1));
            DUE.is("the last", x.turn(0, TONES), FAR);
            dueRow("it stays", x, 0, side * MOST / 2, -side * (MOST / 2 + 1));
        }
    }

    static void p14TonesOf64ToTheGreatestAndOneBeyond() {
        long[] numbers = Made.all(64, MOST / 64);
        WaveBuoys x = Made.row(numbers);
        DUE.is("just the greatest", x.turn(0, TONES), 64);
        DUE.is("the first", x.number(0, 0), MOST);
        numbers[40]++;
        x = Made.row(numbers);
        DUE.is("one beyond", x.turn(0, TONES), FAR);
        dueRow("it stays", x, 0, numbers);
        DUE.is("all the greatest", Made.row(Made.all(64, -MOST)).turn(0, TONES), FAR);
    }

    /** Of FLAT and TWICE, it has one above 4000000000 in size. */
    static void p14FlatAndTwiceOneBeyondFourThousandMillion() {
        int[] places = {0, 31, 63};
        long[] far = {MOST_SUMMED + 1, -MOST_SUMMED - 1};
        for (int place : places) {
            for (long v : far) {
                long[] numbers = Made.all(64, 0);
                numbers[place] = v;
                WaveBuoys x = Made.row(numbers);
                DUE.is("FLAT with " + v + " at " + place, x.turn(0, FLAT), FAR);
                DUE.is("TWICE with " + v + " at " + place, x.turn(0, TWICE), FAR);
                dueRow("it stays", x, 0, numbers);
            }
        }
    }

    static void p14LevelAndTonesBeyondFourThousandMillion() {
        WaveBuoys x = Made.row(MOST_SUMMED + 1, 0);
        DUE.is("LEVEL", x.turn(0, LEVEL), 2);
        dueRow("the ROW", x, 0, MOST_SUMMED + 1, -MOST_SUMMED - 1);
        DUE.is("TONES", x.turn(0, TONES), 2);
        dueRow("the ROW", x, 0, 0, 2 * MOST_SUMMED + 2);
    }

    static void p14FlatAndTwiceOfFourThousandMillion() {
        for (int kind = 0; kind < 5; kind++) {
            int[] ns = {2, 3, 63, 64};
            for (int n : ns) {
                long[] numbers = new long[n];
                for (int i = 0; i < n; i++) {
                    boolean minus = kind == 1 || kind == 2 && i % 2 == 1 || kind == 3 && 2 * i < n || kind == 4 && i > 0 && i < n - 1;
                    numbers[i] = minus ? -MOST_SUMMED : MOST_SUMMED;
                }
                WaveBuoys x = Made.row(numbers);
                DUE.is("FLAT of " + n + ", kind " + kind, x.turn(0, FLAT), n);
                DUE.is("the ROW", Made.numbers(x, 0), flat(numbers));
                x = Made.row(numbers);
                DUE.is("TWICE of " + n + ", kind " + kind, x.turn(0, TWICE), n);
                DUE.is("the ROW", Made.numbers(x, 0), twice(numbers));
            }
        }
    }

    /** FLAT as the document tells it, with numbers that have no end. */
    private static String flat(long[] x) {
        long n = x.length;
        BigInteger sum = BigInteger.ZERO;
        BigInteger slope = BigInteger.ZERO;
        for (int k = 0; k < n; k++) {
            sum = sum.add(BigInteger.valueOf(x[k]));
            slope = slope.add(BigInteger.valueOf(2 * k - n + 1).multiply(BigInteger.valueOf(x[k])));
        }
        long[] flat = new long[x.length];
        for (int i = 0; i < n; i++) {
            BigInteger v = BigInteger.valueOf(n * (n * n - 1)).multiply(BigInteger.valueOf(x[i]));
            v = v.subtract(BigInteger.valueOf(n * n - 1).multiply(sum));
            flat[i] = v.subtract(BigInteger.valueOf(3 * (2 * i - n + 1)).multiply(slope)).longValueExact();
        }
        return Made.numbers(flat);
    }

    /** TWICE as the document tells it, with numbers that have no end. */
    private static String twice(long[] x) {
        int n = x.length;
        BigInteger[] h = new BigInteger[n];
        for (int i = 0; i < n; i++) {
            h[i] = BigInteger.ZERO;
            for (int k = 0; k < i; k++) {
                h[i] = h[i].add(BigInteger.valueOf(i - k).multiply(BigInteger.valueOf(x[k])));
            }
        }
        long[] twice = new long[n];
        for (int i = 0; i < n; i++) {
            twice[i] = BigInteger.valueOf(n - 1).multiply(h[i]).subtract(BigInteger.valueOf(i).multiply(h[n - 1])).longValueExact();
        }
        return Made.numbers(twice);
    }

    static void p14NoAheadOfFar() {
        WaveBuoys x = Made.row(MOST);
        DUE.is("FLAT of one that is FAR", x.turn(0, FLAT), NO);
        DUE.is("TWICE of one that is FAR", x.turn(0, TWICE), NO);
        x = Made.row(MOST, MOST, MOST);
        DUE.is("TONES of three that would be FAR", x.turn(0, TONES), NO);
        dueRow("it stays", x, 0, MOST, MOST, MOST);
    }

    // ---- promise 15: part

    static void p15RowsFrom0To5() {
        WaveBuoys x = Made.row(3, 5);
        Made.row(x, 5, 7, 4);
        for (int row : NO_ROWS) {
            DUE.is("part of " + row, x.part(row, 0, 0), BAD);
        }
        DUE.is("the least", x.part(0, 0, 0), 1);
        DUE.is("the greatest", x.part(5, 1, 1), 1);
        dueRow("ROW 0", x, 0, 3, 0);
        dueRow("ROW 5", x, 5, 0, 4);
    }

    /** BAD: also from below 0. */
    static void p15FromBelow0IsBad() {
        WaveBuoys x = Made.row(3, 5);
        DUE.is("-1", x.part(0, -1, 1), BAD);
        DUE.is("-1 .. -1", x.part(0, -1, -1), BAD);
        DUE.is("the least", x.part(0, LEAST, GREATEST), BAD);
        dueRow("it stays", x, 0, 3, 5);
    }

    /** BAD: also to below from. */
    static void p15ToBelowFromIsBad() {
        WaveBuoys x = Made.row(3, 5);
        DUE.is("1 .. 0", x.part(0, 1, 0), BAD);
        DUE.is("0 .. -1", x.part(0, 0, -1), BAD);
        DUE.is("0 .. the least", x.part(0, 0, LEAST), BAD);
        DUE.is("beyond the end", x.part(0, 9, 8), BAD);
        DUE.is("the greatest", x.part(0, GREATEST, GREATEST - 1), BAD);
        dueRow("it stays", x, 0, 3, 5);
    }

    static void p15BadOfAnEmptyRow() {
        DUE.is("from -1", new WaveBuoys().part(0, -1, 0), BAD);
        DUE.is("to -1", new WaveBuoys().part(0, 0, -1), BAD);
    }

    static void p15JustOne() {
        WaveBuoys x = Made.row(3, 5, 7);
        DUE.is("the first", x.part(0, 0, 0), 2);
        dueRow("the ROW", x, 0, 3, 0, 0);
        Made.row(x, 0, 3, 5, 7);
        DUE.is("the last", x.part(0, 2, 2), 2);
        dueRow("the ROW", x, 0, 0, 0, 7);
    }

    static void p15All() {
        WaveBuoys x = Made.row(3, 5, 7);
        DUE.is("to the last", x.part(0, 0, 2), 0);
        dueRow("the ROW", x, 0, 3, 5, 7);
    }

    /** To may be beyond the end. */
    static void p15ToBeyondTheEnd() {
        WaveBuoys x = Made.row(3, 5, 7);
        DUE.is("just beyond", x.part(0, 0, 3), 0);
        DUE.is("the greatest", x.part(0, 1, GREATEST), 1);
        dueRow("the ROW", x, 0, 0, 5, 7);
    }

    static void p15FromBeyondTheEnd() {
        WaveBuoys x = Made.row(3, 0, 7);
        DUE.is("just beyond", x.part(0, 3, 3), 2);
        dueRow("all are 0", x, 0, 0, 0, 0);
        Made.row(x, 0, 3, 5, 7);
        DUE.is("the greatest", x.part(0, GREATEST, GREATEST), 3);
        dueRow("all are 0 again", x, 0, 0, 0, 0);
    }

    static void p15AnEmptyRow() {
        DUE.is("0 .. 0", new WaveBuoys().part(0, 0, 0), 0);
        DUE.is("64 .. 64", new WaveBuoys().part(5, 64, 64), 0);
    }

    /** How many of those were not 0. */
    static void p15ThoseThatWere0AreNotCounted() {
        WaveBuoys x = Made.row(0, 5, 0, 7, 0, -1, 0);
        DUE.is("two were not", x.part(0, 3, 3), 2);
        DUE.is("none is left", x.part(0, 3, 3), 0);
        DUE.is("none was", Made.row(0, 0, 0).part(0, 1, 1), 0);
    }

    static void p15All64() {
        WaveBuoys x = Made.row(Made.all(64, -1));
        DUE.is("all but the last", x.part(0, 63, 63), 63);
        DUE.is("the last is kept", x.number(0, 63), -1);
        DUE.is("the last, too", x.part(0, 64, 64), 1);
    }

    // ---- promise 16: mix

    static void p16RowsFrom0To5() {
        WaveBuoys x = Made.row(3, 5);
        Made.row(x, 5, 70, 40);
        for (int row : NO_ROWS) {
            DUE.is("mix of " + row, x.mix(row, 1, 0, 1), BAD);
            DUE.is("mix with " + row, x.mix(0, 1, row, 1), BAD);
        }
        DUE.is("the least", x.mix(0, 1, 5, 1), 2);
        dueRow("ROW 0", x, 0, 73, 45);
        DUE.is("the greatest", x.mix(5, 1, 0, -1), 2);
        dueRow("ROW 5", x, 5, -3, -5);
    }

    /** p, q -1000 .. 1000. */
    static void p16TheLeastAndTheGreatestFactors() {
        WaveBuoys x = Made.row(3);
        Made.row(x, 1, 5);
        DUE.is("1000, -1000", x.mix(0, 1000, 1, -1000), 1);
        dueRow("ROW 0", x, 0, -2000);
        DUE.is("-1000, 1000", x.mix(0, -1000, 1, 1000), 1);
        dueRow("ROW 0", x, 0, 2005000);
    }

    static void p16TheFirstFactorsBeyond() {
        WaveBuoys x = Made.row(3);
        Made.row(x, 1, 5);
        int[] bad = {1001, -1001, LEAST, GREATEST};
        for (int f : bad) {
            DUE.is("p " + f, x.mix(0, f, 1, 1), BAD);
            DUE.is("q " + f, x.mix(0, 1, 1, f), BAD);
        }
        dueRow("it stays", x, 0, 3);
    }

    static void p16ByNoughtAndNought() {
        WaveBuoys x = Made.row(MOST, -MOST);
        DUE.is("with itself", x.mix(0, 0, 0, 0), 2);
        dueRow("the ROW", x, 0, 0, 0);
    }

    /** Perhaps itself. */
    static void p16WithItself() {
        WaveBuoys x = Made.row(3, -5);
        DUE.is("twice and thrice", x.mix(0, 2, 0, 3), 2);
        dueRow("the ROW", x, 0, 15, -25);
    }

    static void p16TheOtherStays() {
        WaveBuoys x = Made.row(3, -5);
        Made.row(x, 1, 7, 8);
        x.mix(0, 2, 1, 3);
        dueRow("the other", x, 1, 7, 8);
    }

    /** NO: they have not as many. */
    static void p16NotAsMany() {
        WaveBuoys x = Made.row(3, -5);
        Made.row(x, 1, 7);
        Made.row(x, 2, 7, 8, 9);
        DUE.is("one fewer", x.mix(0, 1, 1, 1), NO);
        DUE.is("one more", x.mix(0, 1, 2, 1), NO);
        DUE.is("none", x.mix(0, 1, 3, 0), NO);
        DUE.is("to none", x.mix(3, 1, 0, 1), NO);
        dueRow("it stays", x, 0, 3, -5);
        dueRow("the empty one", x, 3);
    }

    static void p16NoneWithNone() {
        DUE.is("empty ROWS", new WaveBuoys().mix(0, 1000, 5, 1000), 0);
    }

    static void p16All64() {
        WaveBuoys x = Made.row(Made.all(64, 2));
        Made.row(x, 1, Made.all(64, 3));
        DUE.is("64", x.mix(0, 1, 1, 1), 64);
        dueRow("the ROW", x, 0, Made.all(64, 5));
    }

    static void p16ToTheGreatest() {
        WaveBuoys x = Made.row(MOST - 1, 1 - MOST);
        Made.row(x, 1, 1, -1);
        DUE.is("both SIDES", x.mix(0, 1, 1, 1), 2);
        dueRow("the ROW", x, 0, MOST, -MOST);
    }

    static void p16OneBeyondTheGreatest() {
        long[] others = {1, -1};
        for (long v : others) {
            WaveBuoys x = Made.row(0, v * MOST);
            Made.row(x, 1, 0, v);
            DUE.is("the last", x.mix(0, 1, 1, 1), FAR);
            dueRow("it stays", x, 0, 0, v * MOST);
            x = Made.row(v * MOST, 0);
            Made.row(x, 1, v, 0);
            DUE.is("the first", x.mix(0, 1, 1, 1), FAR);
            dueRow("it stays, too", x, 0, v * MOST, 0);
            dueRow("the other", x, 1, v, 0);
        }
    }

    /** Nothing wraps around with the greatest of all. */
    static void p16FarBeyondTheGreatest() {
        WaveBuoys x = Made.row(MOST);
        DUE.is("above", x.mix(0, 1000, 0, 1000), FAR);
        DUE.is("below", x.mix(0, -1000, 0, -1000), FAR);
        dueRow("it stays", x, 0, MOST);
    }

    /** FAR: a ROW would have such; not what is between. */
    static void p16TheSumAloneIsLookedAt() {
        WaveBuoys x = Made.row(MOST);
        DUE.is("1000 times less 999 times", x.mix(0, 1000, 0, -999), 1);
        dueRow("the ROW", x, 0, MOST);
    }

    static void p16BadAheadOfNo() {
        WaveBuoys x = Made.row(3);
        DUE.is("p 1001", x.mix(0, 1001, 1, 0), BAD);
        DUE.is("q -1001", x.mix(0, 0, 1, -1001), BAD);
    }

    static void p16BadAheadOfFar() {
        DUE.is("q 1001", Made.row(MOST).mix(0, 1000, 0, 1001), BAD);
    }

    static void p16NoAheadOfFar() {
        DUE.is("would be FAR", Made.row(MOST).mix(0, 1000, 1, 0), NO);
    }

    // ---- promise 17: force

    static void p17RowsFrom0To5() {
        WaveBuoys x = Made.row(3);
        Made.row(x, 5, 4);
        DUE.is("the least", x.force(0, 0, 0), 9);
        DUE.is("the greatest", x.force(5, 0, 0), 16);
        for (int row : NO_ROWS) {
            DUE.failed("force of " + row, x.force(row, 0, 0), BAD);
        }
    }

    /** BAD as for part(). */
    static void p17FromBelow0IsBad() {
        WaveBuoys x = Made.row(3, 5);
        DUE.failed("-1", x.force(0, -1, 1), BAD);
        DUE.failed("-1 .. -1", x.force(0, -1, -1), BAD);
        DUE.failed("the least", x.force(0, LEAST, GREATEST), BAD);
    }

    static void p17ToBelowFromIsBad() {
        WaveBuoys x = Made.row(3, 5);
        DUE.failed("1 .. 0", x.force(0, 1, 0), BAD);
        DUE.failed("0 .. -1", x.force(0, 0, -1), BAD);
        DUE.failed("beyond the end", x.force(0, 9, 8), BAD);
        DUE.failed("an empty ROW", x.force(1, 1, 0), BAD);
    }

    static void p17JustOneAndAll() {
        WaveBuoys x = Made.row(2, 3, 5);
        DUE.is("the first", x.force(0, 0, 0), 4);
        DUE.is("the last", x.force(0, 2, 2), 25);
        DUE.is("all", x.force(0, 0, 2), 38);
    }

    static void p17BeyondTheEnd() {
        WaveBuoys x = Made.row(2, 3, 5);
        DUE.is("to just beyond", x.force(0, 1, 3), 34);
        DUE.is("to the greatest", x.force(0, 0, GREATEST), 38);
        DUE.is("from just beyond", x.force(0, 3, 3), 0);
        DUE.is("from the greatest", x.force(0, GREATEST, GREATEST), 0);
    }

    static void p17ThoseOfALongerOneThatWasAreNone() {
        WaveBuoys x = Made.row(2, 3, 5);
        Made.row(x, 0, 1);
        DUE.is("one alone", x.force(0, 0, 63), 1);
    }

    static void p17AnEmptyRow() {
        DUE.is("0 .. 63", new WaveBuoys().force(0, 0, 63), 0);
    }

    /** None of which may be above 200000000 in size. */
    static void p17TheGreatest() {
        WaveBuoys x = Made.row(MOST_SQUARED, -MOST_SQUARED);
        DUE.is("above 0", x.force(0, 0, 0), 40000000000000000L);
        DUE.is("below 0", x.force(0, 1, 1), 40000000000000000L);
        DUE.is("64 of them", Made.row(Made.all(64, -MOST_SQUARED)).force(0, 0, 63), 2560000000000000000L);
    }

    static void p17OneBeyondTheGreatestIsFar() {
        DUE.failed("above 0", Made.row(0, MOST_SQUARED + 1).force(0, 0, 1), FAR);
        DUE.failed("below 0", Made.row(-MOST_SQUARED - 1, 0).force(0, 0, 1), FAR);
        DUE.failed("the greatest of all", Made.row(MOST).force(0, 0, 0), FAR);
    }

    /** FAR (one of these). */
    static void p17OneThatIsNotAmongTheseIsNotLookedAt() {
        WaveBuoys x = Made.row(MOST, 3, -MOST);
        DUE.is("between", x.force(0, 1, 1), 9);
        DUE.failed("with the one ahead", x.force(0, 0, 1), FAR);
        DUE.failed("with the one behind", x.force(0, 1, 2), FAR);
        DUE.is("beyond the end", x.force(0, 3, 9), 0);
    }

    static void p17BadAheadOfFar() {
        DUE.failed("to below from", Made.row(MOST).force(0, 1, 0), BAD);
    }

    // ---- promise 18: cross

    static void p18RowsFrom0To5() {
        WaveBuoys x = Made.row(3);
        Made.row(x, 5, 4);
        DUE.is("the least and the greatest", x.cross(0, 5), 12);
        DUE.is("the greatest and the least", x.cross(5, 0), 12);
        for (int row : NO_ROWS) {
            DUE.failed("cross of " + row, x.cross(row, 0), BAD);
            DUE.failed("cross with " + row, x.cross(0, row), BAD);
        }
    }

    /** NO: not as many. */
    static void p18NotAsMany() {
        WaveBuoys x = Made.row(3, 4);
        Made.row(x, 1, 5);
        DUE.failed("one fewer", x.cross(0, 1), NO);
        DUE.failed("one more", x.cross(1, 0), NO);
        DUE.failed("none", x.cross(0, 2), NO);
    }

    static void p18NoneWithNone() {
        DUE.is("empty ROWS", new WaveBuoys().cross(0, 1), 0);
    }

    static void p18WithItself() {
        DUE.is("itself", Made.row(3, -4).cross(0, 0), 25);
    }

    /** None above 200000000 in size, likewise. */
    static void p18TheGreatest() {
        WaveBuoys x = Made.row(Made.all(64, MOST_SQUARED));
        Made.row(x, 1, Made.all(64, -MOST_SQUARED));
        DUE.is("of unlike SIDES", x.cross(0, 1), -2560000000000000000L);
        DUE.is("of one SIDE", x.cross(1, 1), 2560000000000000000L);
    }

    static void p18OneBeyondTheGreatestIsFar() {
        long[] far = {MOST_SQUARED + 1, -MOST_SQUARED - 1};
        for (long v : far) {
            WaveBuoys x = Made.row(1, 2);
            Made.row(x, 1, v, 0);
            Made.row(x, 2, 0, v);
            DUE.failed("the first of the other", x.cross(0, 1), FAR);
            DUE.failed("the last of the other", x.cross(0, 2), FAR);
            DUE.failed("the first of the ROW", x.cross(1, 0), FAR);
            DUE.failed("the last of the ROW", x.cross(2, 0), FAR);
        }
    }

    static void p18FarBesideNought() {
        WaveBuoys x = Made.row(0, 0);
        Made.row(x, 1, MOST, 0);
        DUE.failed("0 times it", x.cross(0, 1), FAR);
    }

    static void p18BadAheadOfNo() {
        DUE.failed("ROW 6 and another", Made.row(3).cross(6, 1), BAD);
    }

    static void p18NoAheadOfFar() {
        WaveBuoys x = Made.row(MOST);
        DUE.failed("the ROW is FAR", x.cross(0, 1), NO);
        DUE.failed("the other is FAR", x.cross(1, 0), NO);
    }

    // ---- promise 19: waves

    private static void dueWaves(int waves, long... numbers) {
        DUE.is("waves of " + Made.numbers(numbers), Made.row(numbers).waves(0), waves);
    }

    static void p19RowsFrom0To5() {
        WaveBuoys x = Made.row(-1, 1, -1, 1);
        Made.row(x, 5, -1, 1, -1, 1, -1, 1);
        DUE.is("the least", x.waves(0), 1);
        DUE.is("the greatest", x.waves(5), 2);
        for (int row : NO_ROWS) {
            DUE.is("waves of " + row, x.waves(row), BAD);
        }
    }

    static void p19NoTurnUp() {
        dueWaves(0);
        dueWaves(0, 5);
        dueWaves(0, -5);
        dueWaves(0, 0, 0, 0, 0);
        dueWaves(0, 1, 2, 3, 4);
        dueWaves(0, -1, -2, -3, -4);
        dueWaves(0, 4, 3, -1, -2);
    }

    static void p19OneTurnUpIsNoWave() {
        dueWaves(0, -1, 1);
        dueWaves(0, -1, 1, 1, -1);
        dueWaves(0, 3, -1, 0, 1, 0, -1);
    }

    static void p19TwoTurnsUpAreOneWave() {
        dueWaves(1, -1, 1, -1, 1);
        dueWaves(1, -1, 1, -1, 1, -1);
        dueWaves(1, 5, -1, -1, 1, 1, -1, -1, 1, 1, -1);
    }

    /** Of a 0 (the SIDE) at the beginning is 0. */
    static void p19NoughtAtTheBeginningHasNoSide() {
        dueWaves(0, 0, 1, -1, 1);
        dueWaves(1, 0, 1, -1, 1, -1, 1);
        dueWaves(1, 0, 0, -1, 1, -1, 1);
        dueWaves(0, 1, -1, 1);
    }

    /** Of a 0 (the SIDE) that of the one ahead. */
    static void p19NoughtHasTheSideOfTheOneAhead() {
        dueWaves(1, -1, 0, 1, 0, -1, 0, 0, 1, 0);
        dueWaves(0, -1, 0, -1, 0);
        dueWaves(0, -1, 1, 0, 1, 0, 1);
    }

    static void p19AsManyAsCanBe() {
        DUE.is("31", Made.row(Made.heights(Made.all(31, 2))).waves(0), 31);
    }

    static void p19NumbersOfALongerOneThatWasAreNone() {
        WaveBuoys x = Made.row(-1, 1, -1, 1, -1, 1);
        Made.row(x, 0, -1, 1, -1);
        DUE.is("one TURN UP is left", x.waves(0), 0);
    }

    static void p19TheGreatestNumbers() {
        dueWaves(1, -MOST, MOST, -MOST, MOST);
    }

    // ---- promise 20: wave

    private static void dueWave(WaveBuoys x, int w, long... facts) {
        for (int what = 0; what < 5; what++) {
            DUE.is("wave " + w + ", what " + what, x.wave(0, w, what), facts[what]);
        }
    }

    static void p20RowsFrom0To5() {
        WaveBuoys x = Made.row(-1, 1, -1, 1);
        Made.row(x, 5, 0, -1, 1, -1, 1);
        DUE.is("the least", x.wave(0, 0, 0), 1);
        DUE.is("the greatest", x.wave(5, 0, 0), 2);
        for (int row : NO_ROWS) {
            DUE.failed("wave of " + row, x.wave(row, 0, 0), BAD);
        }
    }

    static void p20WhatFrom0To4() {
        WaveBuoys x = Made.row(-1, 1, -1, 1);
        DUE.is("0", x.wave(0, 0, 0), 1);
        DUE.is("4", x.wave(0, 0, 4), 2);
        int[] bad = {-1, 5, LEAST, GREATEST};
        for (int what : bad) {
            DUE.failed("what " + what, x.wave(0, 0, what), BAD);
        }
    }

    /** PLACE: not so many. */
    static void p20FirstAndLastWave() {
        WaveBuoys x = Made.row(-1, 1, -1, 2, -1, 3, -1, 4);
        dueWave(x, 0, 1, 2, 1, -1, 2);
        dueWave(x, 2, 5, 2, 3, -1, 4);
        int[] none = {-1, 3, 4, 31, 32, 64, LEAST, GREATEST};
        for (int w : none) {
            DUE.failed("wave " + w, x.wave(0, w, 0), PLACE);
        }
    }

    static void p20NoWaveAtAll() {
        DUE.failed("an empty ROW", new WaveBuoys().wave(0, 0, 0), PLACE);
        DUE.failed("one TURN UP", Made.row(-1, 1, 1).wave(0, 0, 0), PLACE);
    }

    static void p20BadAheadOfPlace() {
        WaveBuoys x = new WaveBuoys();
        DUE.failed("what 5", x.wave(0, 0, 5), BAD);
        DUE.failed("what -1", x.wave(0, -1, -1), BAD);
        DUE.failed("ROW 6", x.wave(6, 9, 0), BAD);
    }

    /** To the next one (not with it). */
    static void p20TheNextTurnUpIsNotWithIt() {
        WaveBuoys x = Made.row(-9, 2, -3, 50, -60, 70);
        dueWave(x, 0, 1, 2, 2, -3, 5);
        dueWave(x, 1, 3, 2, 50, -60, 110);
    }

    static void p20WhatIsAheadOfTheFirstTurnUpIsInNone() {
        WaveBuoys x = Made.row(90, -80, 0, 1, -1, 1);
        dueWave(x, 0, 3, 2, 1, -1, 2);
    }

    static void p20TheGreatestAndTheLeastAtEachPlace() {
        WaveBuoys x = Made.row(-1, 9, 3, 0, -5, -2, 0, 4, 8, -2, -7, 1);
        dueWave(x, 0, 1, 6, 9, -5, 14);
        dueWave(x, 1, 7, 4, 8, -7, 15);
    }

    static void p20TheLongest() {
        long[] numbers = Made.all(64, -1);
        numbers[1] = 1;
        numbers[63] = 1;
        dueWave(Made.row(numbers), 0, 1, 62, 1, -1, 2);
    }

    static void p20TheLastOf31() {
        WaveBuoys x = Made.row(Made.heights(Made.all(31, 5)));
        dueWave(x, 30, 61, 2, 4, -1, 5);
        DUE.failed("the 32nd", x.wave(0, 31, 0), PLACE);
    }

    static void p20TheGreatestHeight() {
        WaveBuoys x = Made.row(-MOST, MOST, -MOST, MOST);
        dueWave(x, 0, 1, 2, MOST, -MOST, 2 * MOST);
    }

    // ---- promise 21: third

    private static void dueThird(long above, long below, long... heights) {
        WaveBuoys x = Made.row(Made.heights(heights));
        DUE.is("above, of " + Made.numbers(heights), x.third(0, 0), above);
        DUE.is("below, of " + Made.numbers(heights), x.third(0, 1), below);
    }

    static void p21RowsFrom0To5() {
        WaveBuoys x = Made.row(Made.heights(4));
        Made.row(x, 5, Made.heights(7));
        DUE.is("the least", x.third(0, 0), 4);
        DUE.is("the greatest", x.third(5, 0), 7);
        for (int row : NO_ROWS) {
            DUE.failed("third of " + row, x.third(row, 0), BAD);
        }
    }

    static void p21What0And1() {
        WaveBuoys x = Made.row(Made.heights(4));
        DUE.is("0", x.third(0, 0), 4);
        DUE.is("1", x.third(0, 1), 1);
        int[] bad = {-1, 2, LEAST, GREATEST};
        for (int what : bad) {
            DUE.failed("what " + what, x.third(0, what), BAD);
        }
    }

    /** NO: there is no WAVE. */
    static void p21NoWave() {
        WaveBuoys x = Made.row(-1, 1, 1);
        int[] rows = {0, 1};
        for (int row : rows) {
            DUE.failed("above, of " + row, x.third(row, 0), NO);
            DUE.failed("below, of " + row, x.third(row, 1), NO);
        }
    }

    static void p21BadAheadOfNo() {
        DUE.failed("what 2", new WaveBuoys().third(0, 2), BAD);
        DUE.failed("ROW 6", new WaveBuoys().third(6, 0), BAD);
    }

    /** At least 1. */
    static void p21AtLeastOne() {
        dueThird(4, 1, 4);
        dueThird(9, 1, 4, 9);
    }

    /** How many WAVES, by 3, cut. */
    static void p21ByThreeAndCut() {
        dueThird(9, 1, 4, 9, 8);
        dueThird(9, 1, 4, 9, 8, 7, 6);
        dueThird(17, 2, 4, 9, 8, 7, 6, 5);
        dueThird(17, 2, 4, 9, 8, 7, 6, 5, 2, 3);
        dueThird(8, 1, 4, 9, 8, 7, 6, 5, 2, 3, 2);
    }

    static void p21TheHighestAtEachPlace() {
        dueThird(9, 1, 9, 2, 2);
        dueThird(9, 1, 2, 9, 2);
        dueThird(9, 1, 2, 2, 9);
        dueThird(19, 2, 2, 3, 9, 4, 5, 10);
        dueThird(19, 2, 10, 9, 2, 3, 4, 5);
    }

    static void p21OnesAsHigh() {
        dueThird(9, 1, 9, 9, 9, 9, 9, 9);
        dueThird(5, 1, 5, 5, 2, 2, 5, 5);
    }

    /** In lowest terms. */
    static void p21LowestTerms() {
        dueThird(9, 2, 2, 3, 2, 2, 6, 2);
        dueThird(4, 1, 2, 3, 2, 2, 5, 2);
        dueThird(20, 3, 7, 6, 7, 2, 2, 2, 2, 2, 2);
        dueThird(7, 1, 7, 6, 8, 2, 2, 2, 2, 2, 2);
        dueThird(13, 2, 7, 6, 7, 6, 2, 2, 2, 2, 2, 2, 2, 2);
    }

    static void p21TenOf31() {
        long[] heights = Made.all(31, 2);
        for (int w = 0; w < 10; w++) {
            heights[3 * w] = 10;
        }
        heights[30] = 9;
        dueThird(10, 1, heights);
        heights[0] = 11;
        dueThird(101, 10, heights);
        heights[3] = 11;
        dueThird(51, 5, heights);
    }

    static void p21NothingOfTheWavesThatWere() {
        WaveBuoys x = Made.row(0, -1, 49, -1, 89, -1, 79, -1, 69, -1, 59, -1, 49);
        x.third(0, 0);
        Made.row(x, 0, Made.heights(5, 9, 8));
        DUE.is("above", x.third(0, 0), 9);
        DUE.is("below", x.third(0, 1), 1);
    }

    static void p21TheGreatestHeights() {
        long[] numbers = Made.all(64, -MOST);
        for (int i = 1; i < 64; i += 2) {
            numbers[i] = MOST;
        }
        WaveBuoys x = Made.row(numbers);
        DUE.is("above", x.third(0, 0), 2 * MOST);
        DUE.is("below", x.third(0, 1), 1);
        for (int i = 1; i < 64; i += 2) {
            numbers[i] = i == 9 ? MOST - 1 : i < 20 ? MOST : 1;
        }
        x = Made.row(numbers);
        DUE.is("above, with one lower", x.third(0, 0), 20 * MOST - 1);
        DUE.is("below, with one lower", x.third(0, 1), 10);
    }

    // ---- promise 22: groups

    private static void dueGroups(int many, int longest, long b, long... heights) {
        WaveBuoys x = Made.row(Made.heights(heights));
        DUE.is("how many above " + b + " of " + Made.numbers(heights), x.groups(0, b, 0), many);
        DUE.is("the longest above " + b + " of " + Made.numbers(heights), x.groups(0, b, 1), longest);
    }

    static void p22RowsFrom0To5() {
        WaveBuoys x = Made.row(Made.heights(4, 4));
        Made.row(x, 5, Made.heights(4, 4, 4));
        DUE.is("the least", x.groups(0, 3, 1), 2);
        DUE.is("the greatest", x.groups(5, 3, 1), 3);
        for (int row : NO_ROWS) {
            DUE.is("groups of " + row, x.groups(row, 3, 0), BAD);
        }
    }

    static void p22What0And1() {
        WaveBuoys x = Made.row(Made.heights(4, 4, 4));
        DUE.is("0", x.groups(0, 3, 0), 1);
        DUE.is("1", x.groups(0, 3, 1), 3);
        int[] bad = {-1, 2, LEAST, GREATEST};
        for (int what : bad) {
            DUE.is("what " + what, x.groups(0, 3, what), BAD);
        }
    }

    static void p22NoWave() {
        WaveBuoys x = Made.row(-1, 1, 1);
        for (int row = 0; row < 2; row++) {
            DUE.is("how many", x.groups(row, LEAST, 0), 0);
            DUE.is("the longest", x.groups(row, LEAST, 1), 0);
        }
    }

    /** With HEIGHT above b. */
    static void p22JustAsHighIsNotAbove() {
        dueGroups(1, 2, 4, 5, 5);
        dueGroups(0, 0, 5, 5, 5);
        dueGroups(0, 1, 5, 5, 6);
        dueGroups(0, 1, 5, 6, 5);
    }

    static void p22TheLeastAndTheGreatestB() {
        dueGroups(1, 3, Long.MIN_VALUE, 5, 6, 7);
        dueGroups(1, 3, -1, 5, 6, 7);
        dueGroups(1, 3, 0, 5, 6, 7);
        dueGroups(0, 0, Long.MAX_VALUE, 5, 6, 7);
        dueGroups(0, 0, 1L << 32, 5, 6, 7);
        dueGroups(1, 3, -1L << 32, 5, 6, 7);
    }

    static void p22BAtTheGreatestHeight() {
        WaveBuoys x = Made.row(-MOST, MOST, -MOST, MOST, -MOST, MOST);
        DUE.is("one less", x.groups(0, 2 * MOST - 1, 1), 2);
        DUE.is("just as high", x.groups(0, 2 * MOST, 1), 0);
    }

    /** How many such rows of 2 or more. */
    static void p22OneAloneIsNoneOfTwo() {
        dueGroups(0, 1, 5, 9);
        dueGroups(0, 1, 5, 9, 2, 9, 2, 9);
        dueGroups(1, 2, 5, 9, 9);
        dueGroups(1, 2, 5, 9, 2, 9, 9, 2, 9);
    }

    /** As long as may be. */
    static void p22OneRowIsCountedOnce() {
        dueGroups(1, 3, 5, 9, 9, 9);
        dueGroups(1, 5, 5, 9, 9, 9, 9, 9);
    }

    static void p22AtBothEndsAndBetween() {
        dueGroups(3, 2, 5, 9, 9, 2, 9, 9, 2, 9, 9);
        dueGroups(2, 3, 5, 9, 9, 2, 2, 9, 9, 9);
        dueGroups(2, 3, 5, 9, 9, 9, 2, 2, 9, 9);
        dueGroups(1, 2, 5, 2, 9, 9, 2);
    }

    static void p22NothingOfTheWavesThatWere() {
        WaveBuoys x = Made.row(Made.heights(9, 9, 9));
        x.groups(0, 1, 0);
        Made.row(x, 0, Made.heights(9));
        DUE.is("how many", x.groups(0, 1, 0), 0);
        DUE.is("the longest", x.groups(0, 1, 1), 1);
    }

    /** 0: none. */
    static void p22NoneIsAbove() {
        dueGroups(0, 0, 9, 9, 9, 2);
    }

    static void p22AllOf31() {
        dueGroups(1, 31, 1, Made.all(31, 2));
        dueGroups(0, 0, 2, Made.all(31, 2));
        long[] heights = Made.all(31, 2);
        for (int w = 2; w < 31; w += 3) {
            heights[w] = 5;
        }
        dueGroups(0, 1, 2, heights);
        for (int w = 0; w < 31; w++) {
            heights[w] = w % 3 == 2 ? 2 : 5;
        }
        dueGroups(10, 2, 2, heights);
    }

    // ---- promise 23: heading

    private static WaveBuoys way(long[] h, long[] e, long[] n) {
        WaveBuoys x = Made.row(h);
        Made.row(x, 1, e);
        Made.row(x, 2, n);
        return x;
    }

    private static long[] of(long... numbers) {
        return numbers;
    }

    private static void dueWays(int eighth, int[]... ways) {
        for (int[] way : ways) {
            WaveBuoys x = way(of(1), of(way[0]), of(way[1]));
            DUE.is("x " + way[0] + ", y " + way[1], x.heading(0, 1, 2, 100), eighth);
        }
    }

    private static int[] xy(int x, int y) {
        return new int[] {x, y};
    }

    static void p23RowsFrom0To5() {
        WaveBuoys x = Made.row(1);
        Made.row(x, 5, 1);
        DUE.is("the least and the greatest", x.heading(0, 5, 5, 1), 1);
        DUE.is("the greatest and the least", x.heading(5, 0, 0, 1), 1);
        for (int row : NO_ROWS) {
            DUE.is("h " + row, x.heading(row, 0, 0, 1), BAD);
            DUE.is("e " + row, x.heading(0, row, 0, 1), BAD);
            DUE.is("n " + row, x.heading(0, 0, row, 1), BAD);
        }
    }

    /** t (1 .. 100). */
    static void p23PercentFrom1To100() {
        WaveBuoys x = way(of(1), of(1), of(0));
        DUE.is("1", x.heading(0, 1, 2, 1), 0);
        DUE.is("100", x.heading(0, 1, 2, 100), 0);
        int[] bad = {0, -1, 101, LEAST, GREATEST};
        for (int t : bad) {
            DUE.is("t " + t, x.heading(0, 1, 2, t), BAD);
        }
    }

    /** NO: not as many. */
    static void p23NotAsMany() {
        WaveBuoys x = way(of(1, 2), of(1, 2), of(1, 2));
        Made.row(x, 3, 1);
        Made.row(x, 4, 1, 2, 3);
        int[] others = {3, 4, 5};
        for (int other : others) {
            DUE.is("h " + other, x.heading(other, 1, 2, 1), NO);
            DUE.is("e " + other, x.heading(0, other, 2, 1), NO);
            DUE.is("n " + other, x.heading(0, 1, other, 1), NO);
            DUE.is("e and n " + other, x.heading(0, other, other, 1), NO);
        }
    }

    /** FAR: a number of these above 1000 in size. */
    static void p23TheGreatestNumbers() {
        WaveBuoys x = way(of(1000, -1000), of(-1000, 1000), of(1000, -1000));
        DUE.is("1000 and -1000", x.heading(0, 1, 2, 100), 3);
    }

    static void p23OneBeyondTheGreatestIsFar() {
        long[] far = {1001, -1001};
        for (long v : far) {
            WaveBuoys x = way(of(1, 1), of(1, 1), of(1, 1));
            Made.row(x, 3, v, 0);
            Made.row(x, 4, 0, v);
            for (int row = 3; row < 5; row++) {
                DUE.is("h with " + v, x.heading(row, 1, 2, 1), FAR);
                DUE.is("e with " + v, x.heading(0, row, 2, 1), FAR);
                DUE.is("n with " + v, x.heading(0, 1, row, 1), FAR);
            }
        }
    }

    static void p23BadAheadOfNoAndFar() {
        WaveBuoys x = way(of(1001), of(1001), of(1001));
        DUE.is("not as many, t 0", x.heading(0, 1, 3, 0), BAD);
        DUE.is("not as many, ROW 6", x.heading(0, 3, 6, 1), BAD);
        DUE.is("FAR, t 101", x.heading(0, 1, 2, 101), BAD);
    }

    static void p23NoAheadOfFar() {
        WaveBuoys x = way(of(1001), of(1001), of(1001));
        DUE.is("h", x.heading(3, 1, 2, 1), NO);
        DUE.is("e", x.heading(0, 3, 2, 1), NO);
        DUE.is("n", x.heading(0, 1, 3, 1), NO);
    }

    static void p23FarAheadOfNone() {
        DUE.is("x, y are 0", way(of(0), of(1001), of(0)).heading(0, 1, 2, 1), FAR);
    }

    /** And x, y are not both 0. */
    static void p23BothNoughtIsNone() {
        DUE.is("all are 0", way(of(0, 0), of(0, 0), of(0, 0)).heading(0, 1, 2, 1), NONE);
        DUE.is("h is 0", way(of(0, 0), of(1, 2), of(3, 4)).heading(0, 1, 2, 1), NONE);
        DUE.is("e, n are 0", way(of(1, 2), of(0, 0), of(0, 0)).heading(0, 1, 2, 100), NONE);
        DUE.is("upright", way(of(1, 1), of(1, -1), of(-1, 1)).heading(0, 1, 2, 1), NONE);
        DUE.is("empty ROWS", new WaveBuoys().heading(0, 1, 2, 1), NONE);
    }

    /** Is t times the FORCE .., or more. */
    static void p23JustTTimesIsKnown() {
        WaveBuoys x = way(of(1, 0, 0), of(1, 9, 3), of(0, 3, 0));
        DUE.is("1 of 100", x.heading(0, 1, 2, 1), 0);
        DUE.is("2 of 100", x.heading(0, 1, 2, 2), NONE);
        x = way(of(1, 0, 0), of(1, 9, 3), of(0, 3, 1));
        DUE.is("1 of 101", x.heading(0, 1, 2, 1), NONE);
        x = way(of(1, 0), of(3, 1), of(0, 0));
        DUE.is("90 of 100", x.heading(0, 1, 2, 90), 0);
        DUE.is("91 of 100", x.heading(0, 1, 2, 91), NONE);
    }

    static void p23AllOfItIsKnownByEachT() {
        WaveBuoys x = way(of(2, -3), of(4, -6), of(-2, 3));
        for (int t = 1; t <= 100; t++) {
            DUE.is("t " + t, x.heading(0, 1, 2, t), 7);
        }
    }

    static void p23TheGreatestSums() {
        long[] most = Made.all(64, 1000);
        long[] least = Made.all(64, -1000);
        DUE.is("all of it", way(most, least, least).heading(0, 1, 2, 100), 5);
        least[63] = -999;
        DUE.is("just less than all", way(most, least, most).heading(0, 1, 2, 100), NONE);
        DUE.is("nearly all", way(most, least, most).heading(0, 1, 2, 99), 2);
    }

    static void p23FirstEighth() {
        dueWays(0, xy(5, 0), xy(5, 1), xy(5, 4));
    }

    static void p23SecondEighth() {
        dueWays(1, xy(5, 5), xy(4, 5), xy(1, 5));
    }

    static void p23ThirdEighth() {
        dueWays(2, xy(0, 5), xy(-1, 5), xy(-4, 5));
    }

    static void p23FourthEighth() {
        dueWays(3, xy(-5, 5), xy(-5, 4), xy(-5, 1));
    }

    static void p23FifthEighth() {
        dueWays(4, xy(-5, 0), xy(-5, -1), xy(-5, -4));
    }

    static void p23SixthEighth() {
        dueWays(5, xy(-5, -5), xy(-4, -5), xy(-1, -5));
    }

    static void p23SeventhEighth() {
        dueWays(6, xy(0, -5), xy(1, -5), xy(4, -5));
    }

    static void p23EighthEighth() {
        dueWays(7, xy(5, -5), xy(5, -4), xy(5, -1));
    }

    static void p23OneRowThrice() {
        DUE.is("itself", Made.row(3, -4).heading(0, 0, 0, 50), 1);
        DUE.is("known by all", Made.row(3, -4).heading(0, 0, 0, 100), 1);
    }

    static void p23TheRowsStay() {
        WaveBuoys x = way(of(1, 2), of(3, 4), of(5, 6));
        x.heading(0, 1, 2, 50);
        dueRow("h", x, 0, 1, 2);
        dueRow("e", x, 1, 3, 4);
        dueRow("n", x, 2, 5, 6);
    }
}
