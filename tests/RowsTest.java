/** Promises 12 to 23: ROWS, what is made of them, WAVES and the way they go. */
public final class RowsTest {
    private static final int LEAST = Integer.MIN_VALUE;
    private static final int GREATEST = Integer.MAX_VALUE;
    private static final Due DUE = new Due();

    public static void main(String[] args) {
        raise();
        number();
        level();
        flatAndTwice();
        tones();
        signsOfTones();
        turnFails();
        part();
        mix();
        force();
        cross();
        waves();
        wave();
        third();
        groups();
        eighths();
        known();
        headingFails();
        DUE.end();
    }

    /** A new object with ROW 0 of the values. */
    private static WaveBuoys with(int... values) {
        WaveBuoys x = new WaveBuoys();
        row(x, 0, values);
        return x;
    }

    private static void row(WaveBuoys x, int row, int... values) {
        x.sheet(7, 2, values.length);
        for (int i = 0; i < values.length; i++) {
            if (values[i] != 0) {
                x.put(7, i, values[i]);
            }
        }
        x.raise(7, row);
    }

    private static int[] all(int n, int value) {
        int[] values = new int[n];
        java.util.Arrays.fill(values, value);
        return values;
    }

    private static void dueRow(WaveBuoys x, int row, long... values) {
        for (int i = 0; i < values.length; i++) {
            DUE.is("number(" + row + ", " + i + ")", x.number(row, i), values[i]);
        }
        DUE.failed("number behind the last", x.number(row, values.length), WaveBuoys.PLACE);
    }

    /** WAVES of these heights, 2 or more each: each takes two numbers. */
    private static int[] heights(int... heights) {
        int[] values = new int[2 * heights.length + 2];
        values[0] = -1;
        for (int w = 0; w < heights.length; w++) {
            values[2 * w + 1] = heights[w] - 1;
            values[2 * w + 2] = -1;
        }
        values[values.length - 1] = 1;
        return values;
    }

    private static void raise() {
        DUE.promise(12, "raise");
        WaveBuoys x = new WaveBuoys();
        x.sheet(0, 2, 4);
        x.put(0, 0, LEAST);
        x.put(0, 1, GREATEST);
        x.put(0, 3, 6);
        DUE.is("four", x.raise(0, 5), 4);
        dueRow(x, 5, LEAST, GREATEST, 0, 6);
        x.lose(0, 2);
        DUE.is("LOST", x.raise(0, 5), WaveBuoys.LOST);
        dueRow(x, 5, LEAST, GREATEST, 0, 6);
        x.put(0, 1, 0);
        x.fill(0, 1);
        DUE.is("FILLED", x.raise(0, 4), 4);
        dueRow(x, 4, LEAST, 0, 3, 6);
        x.put(0, 0, 1);
        DUE.is("the ROW stays where the SHEET is told", x.number(4, 0), LEAST);
        x.sheet(0, 0, 64);
        DUE.is("64", x.raise(0, 5), 64);
        x.sheet(0, 0, 0);
        DUE.is("none", x.raise(0, 5), 0);
        dueRow(x, 5);
        DUE.is("SHEET below", x.raise(-1, 0), WaveBuoys.BAD);
        DUE.is("SHEET above", x.raise(8, 0), WaveBuoys.BAD);
        DUE.is("ROW below", x.raise(1, -1), WaveBuoys.BAD);
        DUE.is("ROW above", x.raise(1, 6), WaveBuoys.BAD);
        DUE.is("missing", x.raise(1, 0), WaveBuoys.NOTHING);
    }

    private static void number() {
        DUE.promise(13, "number");
        WaveBuoys x = with(3, -4);
        DUE.is("first", x.number(0, 0), 3);
        DUE.is("last", x.number(0, 1), -4);
        DUE.failed("place below", x.number(0, -1), WaveBuoys.PLACE);
        DUE.failed("place above", x.number(0, 2), WaveBuoys.PLACE);
        DUE.failed("place far above", x.number(0, GREATEST), WaveBuoys.PLACE);
        DUE.failed("ROW below", x.number(-1, 0), WaveBuoys.BAD);
        DUE.failed("ROW above", x.number(6, 9), WaveBuoys.BAD);
    }

    private static void level() {
        DUE.promise(14, "turn, LEVEL");
        WaveBuoys x = with(1, 2, 6);
        DUE.is("three", x.turn(0, 0), 3);
        dueRow(x, 0, -6, -3, 9);
        x = with(5);
        DUE.is("one", x.turn(0, 0), 1);
        dueRow(x, 0, 0);
        x = with(2000000, -2000000);
        for (int i = 0; i < 3; i++) {
            x.mix(0, 1000, 0, 0);
        }
        DUE.is("to the greatest size", x.turn(0, 0), 2);
        dueRow(x, 0, 4000000000000000L, -4000000000000000L);
        DUE.is("beyond it", x.turn(0, 0), WaveBuoys.FAR);
        dueRow(x, 0, 4000000000000000L, -4000000000000000L);
    }

    private static void flatAndTwice() {
        DUE.promise(14, "turn, FLAT and TWICE");
        WaveBuoys x = with(1, 2, 6);
        DUE.is("FLAT", x.turn(0, 1), 3);
        dueRow(x, 0, 12, -24, 12);
        x = with(1, 2, 6);
        DUE.is("TWICE", x.turn(0, 2), 3);
        dueRow(x, 0, 0, -2, 0);
        x = with(3, -2, 5, -6);
        DUE.is("TWICE of four", x.turn(0, 2), 4);
        dueRow(x, 0, 0, -1, -8, 0);
        x = with(7, -9);
        DUE.is("FLAT of two", x.turn(0, 1), 2);
        dueRow(x, 0, 0, 0);
        int[] slope = new int[64];
        for (int i = 0; i < 64; i++) {
            slope[i] = 30000000 * i - 900000000;
        }
        x = with(slope);
        DUE.is("FLAT of a slope", x.turn(0, 1), 64);
        dueRow(x, 0, new long[64]);
        int[] sizes = {4000000, -4000000};
        for (int size : sizes) {
            x = with(size, 0, 1);
            row(x, 1, 0, 0, 1);
            x.mix(0, 1000, 1, -1000);
            DUE.is("FLAT of 4000000000", x.turn(0, 1), 3);
            row(x, 0, size, 0, 1);
            x.mix(0, 1000, 1, -1000);
            DUE.is("TWICE of 4000000000", x.turn(0, 2), 3);
            row(x, 0, size, 0, 0);
            x.mix(0, 1000, 1, 0);
            row(x, 1, size > 0 ? 1 : -1, 0, 0);
            x.mix(0, 1, 1, 1);
            DUE.is("FLAT of one more", x.turn(0, 1), WaveBuoys.FAR);
            DUE.is("TWICE of one more", x.turn(0, 2), WaveBuoys.FAR);
            dueRow(x, 0, size * 1000L + (size > 0 ? 1 : -1), 0, 0);
            DUE.is("LEVEL of one more", x.turn(0, 0), 3);
        }
    }

    private static void tones() {
        DUE.promise(14, "turn, TONES");
        WaveBuoys x = with(1, 2, 3, 10);
        DUE.is("four", x.turn(0, 3), 4);
        dueRow(x, 0, 16, -10, 6, -8);
        DUE.is("and back", x.turn(0, 3), 4);
        dueRow(x, 0, 4, 8, 12, 40);
        x = with(9);
        DUE.is("one", x.turn(0, 3), 1);
        dueRow(x, 0, 9);
        x = with(3000000, 3000000);
        for (int i = 0; i < 3; i++) {
            x.mix(0, 1000, 0, 0);
        }
        DUE.is("FAR", x.turn(0, 3), WaveBuoys.FAR);
        dueRow(x, 0, 3000000000000000L, 3000000000000000L);
    }

    /** Number k of TONES changes its sign k times along the ROW, and begins with plus. */
    private static void signsOfTones() {
        for (int n = 1; n <= 64; n *= 2) {
            int[] changes = new int[n];
            long[] before = new long[n];
            java.util.Arrays.fill(before, 1);
            for (int i = 0; i < n; i++) {
                int[] one = new int[n];
                one[i] = 1;
                WaveBuoys x = with(one);
                x.turn(0, 3);
                for (int k = 0; k < n; k++) {
                    long sign = x.number(0, k);
                    DUE.is("size of SIGN(" + i + ", " + k + ")", Math.abs(sign), 1);
                    changes[k] += sign != before[k] ? 1 : 0;
                    before[k] = sign;
                }
            }
            for (int k = 0; k < n; k++) {
                DUE.is("changes of SIGN of " + k + " in " + n, changes[k], k);
            }
        }
    }

    private static void turnFails() {
        DUE.promise(14, "turn, failures");
        for (int n = 0; n <= 64; n++) {
            WaveBuoys x = with(all(n, 0));
            DUE.is("LEVEL of " + n, x.turn(0, 0), n);
            DUE.is("FLAT of " + n, x.turn(0, 1), n < 2 ? WaveBuoys.NO : n);
            DUE.is("TWICE of " + n, x.turn(0, 2), n < 2 ? WaveBuoys.NO : n);
            DUE.is("TONES of " + n, x.turn(0, 3), Integer.bitCount(n) == 1 ? n : WaveBuoys.NO);
        }
        WaveBuoys x = with(5000000);
        x.mix(0, 1000, 0, 0);
        DUE.is("NO ahead of FAR", x.turn(0, 1), WaveBuoys.NO);
        DUE.is("ROW below", x.turn(-1, 0), WaveBuoys.BAD);
        DUE.is("ROW above", x.turn(6, 0), WaveBuoys.BAD);
        DUE.is("how below", x.turn(1, -1), WaveBuoys.BAD);
        DUE.is("how above", x.turn(1, 4), WaveBuoys.BAD);
    }

    private static void part() {
        DUE.promise(15, "part");
        WaveBuoys x = with(1, 0, 3, 4, 5, 0, 7, 8);
        DUE.is("3 .. 6", x.part(0, 3, 6), 3);
        dueRow(x, 0, 0, 0, 0, 4, 5, 0, 7, 0);
        DUE.is("again", x.part(0, 3, 6), 0);
        DUE.is("just one", x.part(0, 4, 4), 2);
        dueRow(x, 0, 0, 0, 0, 0, 5, 0, 0, 0);
        DUE.is("to beyond the end", x.part(0, 4, GREATEST), 0);
        DUE.is("from beyond the end", x.part(0, 8, 9), 1);
        dueRow(x, 0, new long[8]);
        x = with(1, 2);
        DUE.is("from far beyond", x.part(0, GREATEST, GREATEST), 2);
        DUE.is("an empty ROW", x.part(3, 0, 0), 0);
        row(x, 0, 1, 2);
        DUE.is("from below", x.part(0, -1, 0), WaveBuoys.BAD);
        DUE.is("to below from", x.part(0, 1, 0), WaveBuoys.BAD);
        DUE.is("to far below", x.part(0, 0, LEAST), WaveBuoys.BAD);
        DUE.is("ROW below", x.part(-1, 0, 0), WaveBuoys.BAD);
        DUE.is("ROW above", x.part(6, 0, 0), WaveBuoys.BAD);
        dueRow(x, 0, 1, 2);
    }

    private static void mix() {
        DUE.promise(16, "mix");
        WaveBuoys x = with(1, -2, 3);
        row(x, 1, 10, 20, -30);
        DUE.is("two ROWS", x.mix(0, 3, 1, -2), 3);
        dueRow(x, 0, -17, -46, 69);
        dueRow(x, 1, 10, 20, -30);
        DUE.is("itself", x.mix(1, 5, 1, -3), 3);
        dueRow(x, 1, 20, 40, -60);
        DUE.is("greatest factors", x.mix(1, 1000, 0, -1000), 3);
        dueRow(x, 1, 37000, 86000, -129000);
        int[][] bad = {{-1, 0, 0, 0}, {6, 0, 0, 0}, {0, 0, -1, 0}, {0, 0, 6, 0}, {0, 1001, 5, 0}, {0, -1001, 5, 0},
            {0, 0, 5, 1001}, {0, 0, 5, -1001}, {0, LEAST, 5, 0}, {0, 0, 5, LEAST}};
        for (int[] b : bad) {
            DUE.is("mix " + b[0] + " " + b[1] + " " + b[2] + " " + b[3], x.mix(b[0], b[1], b[2], b[3]), WaveBuoys.BAD);
        }
        DUE.is("not as many", x.mix(0, 1, 5, 1), WaveBuoys.NO);
        DUE.is("empty ROWS", x.mix(4, 1, 5, 1), 0);
        x = with(0, 4000000);
        for (int i = 0; i < 3; i++) {
            x.mix(0, 1000, 0, 0);
        }
        dueRow(x, 0, 0, 4000000000000000L);
        row(x, 1, 1, -1);
        DUE.is("one above", x.mix(0, 1, 1, -1), WaveBuoys.FAR);
        DUE.is("one above, below 0", x.mix(0, -1, 1, 1), WaveBuoys.FAR);
        DUE.is("far above", x.mix(0, 1000, 0, 1000), WaveBuoys.FAR);
        dueRow(x, 0, 0, 4000000000000000L);
        DUE.is("one less", x.mix(0, -1, 1, -1), 2);
        dueRow(x, 0, -1, 1 - 4000000000000000L);
    }

    private static void force() {
        DUE.promise(17, "force");
        WaveBuoys x = with(1, -2, 3, -4);
        DUE.is("all", x.force(0, 0, 3), 30);
        DUE.is("some", x.force(0, 1, 2), 13);
        DUE.is("to beyond the end", x.force(0, 2, GREATEST), 25);
        DUE.is("from beyond the end", x.force(0, 4, 5), 0);
        DUE.is("from far beyond the end", x.force(0, GREATEST, GREATEST), 0);
        DUE.is("an empty ROW", x.force(5, 0, 0), 0);
        DUE.failed("from below", x.force(0, -1, 0), WaveBuoys.BAD);
        DUE.failed("to below from", x.force(0, 1, 0), WaveBuoys.BAD);
        DUE.failed("ROW below", x.force(-1, 0, 0), WaveBuoys.BAD);
        DUE.failed("ROW above", x.force(6, 0, 0), WaveBuoys.BAD);
        x = with(1, 200000001, 5, -200000001, -200000000);
        DUE.failed("one above", x.force(0, 0, 1), WaveBuoys.FAR);
        DUE.failed("one below", x.force(0, 2, 3), WaveBuoys.FAR);
        DUE.is("none of these", x.force(0, 2, 2), 25);
        DUE.is("as great as may be", x.force(0, 4, 9), 40000000000000000L);
        x = with(all(64, -200000000));
        DUE.is("64 of them", x.force(0, 0, 63), 2560000000000000000L);
    }

    private static void cross() {
        DUE.promise(18, "cross");
        WaveBuoys x = with(1, -2, 3);
        row(x, 1, 5, 7, -11);
        DUE.is("two ROWS", x.cross(0, 1), -42);
        DUE.is("itself", x.cross(1, 1), 195);
        DUE.is("empty ROWS", x.cross(4, 5), 0);
        DUE.failed("not as many", x.cross(0, 5), WaveBuoys.NO);
        DUE.failed("ROW below", x.cross(-1, 0), WaveBuoys.BAD);
        DUE.failed("ROW above", x.cross(6, 0), WaveBuoys.BAD);
        DUE.failed("other below", x.cross(0, -1), WaveBuoys.BAD);
        DUE.failed("other above", x.cross(0, 6), WaveBuoys.BAD);
        row(x, 2, 0, 0, 200000001);
        DUE.failed("the other is FAR", x.cross(0, 2), WaveBuoys.FAR);
        DUE.failed("the first is FAR", x.cross(2, 0), WaveBuoys.FAR);
        DUE.failed("NO ahead of FAR", x.cross(2, 5), WaveBuoys.NO);
        row(x, 3, all(64, 200000000));
        row(x, 4, all(64, -200000000));
        DUE.is("as far as may be", x.cross(3, 4), -2560000000000000000L);
        row(x, 2, 0, 0, -200000001);
        DUE.failed("below", x.cross(0, 2), WaveBuoys.FAR);
    }

    private static void waves() {
        DUE.promise(19, "waves");
        DUE.is("three", with(0, -1, 0, 2, -3, 4, 0, -5, 0, 0, 6, -1, -2, 7).waves(0), 3);
        DUE.is("none", with().waves(0), 0);
        DUE.is("a TURN UP alone", with(-1, 1, 1, 1).waves(0), 0);
        DUE.is("none at the beginning", with(5, -1, 5).waves(0), 0);
        DUE.is("none behind 0 at the beginning", with(0, 5, -1, 5, -1, 5).waves(0), 1);
        DUE.is("0 is as the one ahead", with(-1, 0, 1, 0, -1, 0, 0, 1, 0).waves(0), 1);
        DUE.is("nothing but 0", with(0, 0, 0, 0).waves(0), 0);
        int[] most = new int[64];
        for (int i = 0; i < 64; i++) {
            most[i] = i % 2 == 0 ? -1 : 1;
        }
        DUE.is("as many as may be", with(most).waves(0), 31);
        DUE.is("ROW below", with(1).waves(-1), WaveBuoys.BAD);
        DUE.is("ROW above", with(1).waves(6), WaveBuoys.BAD);
    }

    private static void wave() {
        DUE.promise(20, "wave");
        WaveBuoys x = with(0, -1, 0, 2, -3, 4, 0, -5, 0, 0, 6, -1, -2, 7);
        long[][] facts = {{3, 2, 2, -3, 5}, {5, 5, 4, -5, 9}, {10, 3, 6, -2, 8}};
        for (int w = 0; w < 3; w++) {
            for (int what = 0; what < 5; what++) {
                DUE.is("wave " + w + " " + what, x.wave(0, w, what), facts[w][what]);
            }
        }
        DUE.failed("not so many", x.wave(0, 3, 0), WaveBuoys.PLACE);
        DUE.failed("below", x.wave(0, -1, 0), WaveBuoys.PLACE);
        DUE.failed("far above", x.wave(0, GREATEST, 0), WaveBuoys.PLACE);
        DUE.failed("none", x.wave(1, 0, 0), WaveBuoys.PLACE);
        DUE.failed("what below", x.wave(0, 9, -1), WaveBuoys.BAD);
        DUE.failed("what above", x.wave(0, 9, 5), WaveBuoys.BAD);
        DUE.failed("ROW below", x.wave(-1, 0, 0), WaveBuoys.BAD);
        DUE.failed("ROW above", x.wave(6, 0, 0), WaveBuoys.BAD);
        x = with(-4000000, 4000000, -4000000, 4000000);
        for (int i = 0; i < 3; i++) {
            x.mix(0, 1000, 0, 0);
        }
        DUE.is("the greatest HEIGHT", x.wave(0, 0, 4), 8000000000000000L);
    }

    private static void third() {
        DUE.promise(21, "third");
        dueThird(9, 1, 5, 9, 8);
        dueThird(9, 1, 5, 9);
        dueThird(4, 1, 4);
        dueThird(9, 1, 5, 9, 8, 3, 7);
        dueThird(17, 2, 5, 9, 8, 3, 7, 2);
        dueThird(9, 1, 5, 9, 8, 3, 9, 2);
        dueThird(9, 2, 2, 6, 2, 3, 2, 2, 4, 2, 5, 2, 2, 2);
        dueThird(20, 3, 7, 2, 7, 2, 2, 2, 2, 6, 2);
        int[] most = new int[31];
        for (int w = 0; w < 31; w++) {
            most[w] = w % 2 == 0 ? 10 + w : 2;
        }
        dueThird(31, 1, most);
        WaveBuoys x = with(0, -1, 49, -1, 89, -1, 79, -1, 69, -1, 59, -1, 49);
        x.third(0, 0);
        row(x, 0, heights(5, 9, 8));
        DUE.is("nothing of the WAVES that were", x.third(0, 0), 9);
        DUE.failed("no WAVE", x.third(1, 0), WaveBuoys.NO);
        row(x, 1, -1, 1, 1);
        DUE.failed("one TURN UP", x.third(1, 1), WaveBuoys.NO);
        DUE.failed("what below", x.third(1, -1), WaveBuoys.BAD);
        DUE.failed("what above", x.third(1, 2), WaveBuoys.BAD);
        DUE.failed("ROW below", x.third(-1, 0), WaveBuoys.BAD);
        DUE.failed("ROW above", x.third(6, 0), WaveBuoys.BAD);
    }

    private static void dueThird(long above, long below, int... heights) {
        WaveBuoys x = with(heights(heights));
        DUE.is("above of " + heights.length, x.third(0, 0), above);
        DUE.is("below of " + heights.length, x.third(0, 1), below);
    }

    private static void groups() {
        DUE.promise(22, "groups");
        WaveBuoys x = with(heights(9, 9, 2, 9, 2, 9, 9, 9));
        dueGroups(x, 5, 2, 3);
        dueGroups(x, 8, 2, 3);
        dueGroups(x, 9, 0, 0);
        dueGroups(x, 1, 1, 8);
        dueGroups(x, 0, 1, 8);
        dueGroups(x, Long.MIN_VALUE, 1, 8);
        dueGroups(x, Long.MAX_VALUE, 0, 0);
        x = with(heights(9, 2, 9));
        dueGroups(x, 5, 0, 1);
        x = with(heights(9, 9, 9, 2, 9, 9));
        dueGroups(x, 5, 2, 3);
        x = new WaveBuoys();
        dueGroups(x, 0, 0, 0);
        DUE.is("what below", x.groups(0, 0, -1), WaveBuoys.BAD);
        DUE.is("what above", x.groups(0, 0, 2), WaveBuoys.BAD);
        DUE.is("ROW below", x.groups(-1, 0, 0), WaveBuoys.BAD);
        DUE.is("ROW above", x.groups(6, 0, 0), WaveBuoys.BAD);
    }

    private static void dueGroups(WaveBuoys x, long b, int many, int longest) {
        DUE.is("how many above " + b, x.groups(0, b, 0), many);
        DUE.is("the longest above " + b, x.groups(0, b, 1), longest);
    }

    private static void eighths() {
        DUE.promise(23, "heading, eighths");
        int[][] ways = {{1, 0, 0}, {3, 1, 0}, {1000, 999, 0}, {2, 2, 1}, {1, 3, 1}, {1, 1000, 1}, {0, 5, 2}, {-1, 2, 2},
            {-999, 1000, 2}, {-2, 2, 3}, {-3, 1, 3}, {-1000, 1, 3}, {-4, 0, 4}, {-4, -1, 4}, {-3, -2, 4}, {-2, -2, 5},
            {-1, -2, 5}, {-1, -1000, 5}, {0, -1, 6}, {1, -2, 6}, {999, -1000, 6}, {2, -2, 7}, {2, -1, 7}, {1000, -1, 7}};
        for (int[] way : ways) {
            WaveBuoys x = with(1);
            row(x, 1, way[0]);
            row(x, 2, way[1]);
            DUE.is("the way " + way[0] + ", " + way[1], x.heading(0, 1, 2, 100), way[2]);
        }
    }

    private static void known() {
        DUE.promise(23, "heading, what is known");
        WaveBuoys x = with(1, 0);
        row(x, 1, 1, 3);
        row(x, 2, 0, 0);
        DUE.is("as much as t", x.heading(0, 1, 2, 10), 0);
        DUE.is("less than t", x.heading(0, 1, 2, 11), WaveBuoys.NONE);
        row(x, 2, 0, 2);
        row(x, 1, 3, 1);
        DUE.is("both FORCES, as much", x.heading(0, 1, 2, 64), 0);
        DUE.is("both FORCES, less", x.heading(0, 1, 2, 65), WaveBuoys.NONE);
        DUE.is("x and y are 0", x.heading(2, 0, 0, 1), WaveBuoys.NONE);
        DUE.is("empty ROWS", x.heading(3, 4, 5, 1), WaveBuoys.NONE);
        DUE.is("one ROW alone", x.heading(0, 0, 0, 50), 1);
        row(x, 0, all(64, 1000));
        DUE.is("as great as may be", x.heading(0, 0, 0, 100), 1);
        x = with(all(64, 1000));
        row(x, 1, all(64, -1000));
        int[] spoilt = all(64, -1000);
        spoilt[9] = -999;
        row(x, 2, spoilt);
        DUE.is("as great as may be, below 0", x.heading(0, 1, 1, 100), 5);
        DUE.is("just less than all", x.heading(0, 1, 2, 100), WaveBuoys.NONE);
        DUE.is("more than nearly all", x.heading(0, 1, 2, 99), 4);
    }

    private static void headingFails() {
        DUE.promise(23, "heading, failures");
        WaveBuoys x = with(1000);
        row(x, 1, 1001);
        row(x, 2, -1001);
        int[] far = {1, 2};
        for (int f : far) {
            DUE.is("h FAR", x.heading(f, 0, 0, 1), WaveBuoys.FAR);
            DUE.is("e FAR", x.heading(0, f, 0, 1), WaveBuoys.FAR);
            DUE.is("n FAR", x.heading(0, 0, f, 1), WaveBuoys.FAR);
        }
        DUE.is("h has not as many", x.heading(5, 1, 1, 1), WaveBuoys.NO);
        DUE.is("e has not as many", x.heading(1, 5, 1, 1), WaveBuoys.NO);
        DUE.is("n has not as many", x.heading(1, 1, 5, 1), WaveBuoys.NO);
        int[][] bad = {{-1, 0, 0, 1}, {6, 0, 0, 1}, {0, -1, 0, 1}, {0, 6, 0, 1}, {0, 0, -1, 1}, {0, 0, 6, 1}, {1, 1, 5, 0},
            {1, 1, 5, 101}, {0, 0, 0, LEAST}};
        for (int[] b : bad) {
            DUE.is("heading " + b[0] + " " + b[1] + " " + b[2] + " " + b[3], x.heading(b[0], b[1], b[2], b[3]), WaveBuoys.BAD);
        }
    }
}
