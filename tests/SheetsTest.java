/** Promises 1 to 11: a new object and its SHEETS. */
public final class SheetsTest {
    private static final int LEAST = Integer.MIN_VALUE;
    private static final int GREATEST = Integer.MAX_VALUE;
    private static final Due DUE = new Due();

    public static void main(String[] args) {
        newObject();
        sheet();
        drop();
        put();
        get();
        lose();
        stands();
        copy();
        copyFails();
        spikes();
        fill();
        about();
        DUE.end();
    }

    /** A new object with SHEET 0 of a SORT, told the values. */
    private static WaveBuoys with(int sort, int... values) {
        WaveBuoys x = new WaveBuoys();
        tell(x, 0, sort, values);
        return x;
    }

    private static void tell(WaveBuoys x, int k, int sort, int... values) {
        x.sheet(k, sort, values.length);
        for (int i = 0; i < values.length; i++) {
            x.put(k, i, values[i]);
        }
    }

    private static void newObject() {
        DUE.promise(1, "a new object");
        WaveBuoys x = new WaveBuoys();
        for (int k = 0; k < 8; k++) {
            DUE.is("about of a missing SHEET", x.about(k, 1), WaveBuoys.NOTHING);
        }
        for (int row = 0; row < 6; row++) {
            DUE.failed("number of an empty ROW", x.number(row, 0), WaveBuoys.PLACE);
            DUE.is("turn of an empty ROW", x.turn(row, 0), 0);
        }
        for (int what = 0; what < 10; what++) {
            DUE.is("count " + what, x.count(what), 0);
        }
        DUE.is("receive", x.receive(0), WaveBuoys.NO);
        DUE.is("miss", x.miss(0), WaveBuoys.BAD);
        DUE.is("hear 99", x.hear(99), 0);
        DUE.is("hear 100", x.hear(100), 1);
        DUE.is("hear 51", x.hear(51), 1);
        DUE.is("hear 50", x.hear(50), 0);
        DUE.is("hear 100", x.hear(100), 1);
        DUE.is("fix 0, 0", x.fix(0, 0), 0);
        DUE.is("fix 0, 1", x.fix(0, 1), 2);
    }

    private static void sheet() {
        DUE.promise(2, "sheet");
        WaveBuoys x = new WaveBuoys();
        DUE.is("bytes", x.sheet(0, 0, 64), 1);
        DUE.is("shorts", x.sheet(1, 1, 1), 1);
        DUE.is("ints", x.sheet(7, 2, 0), 1);
        DUE.is("64 SAMPLES", x.about(0, 1), 64);
        DUE.is("no SAMPLES", x.about(7, 1), 0);
        DUE.is("its SORT", x.about(7, 0), 2);
        DUE.is("the last is 0", x.get(0, 63), 0);
        DUE.is("the last is told", x.stands(0, 63), 1);
        int[][] bad = {{-1, 0, 1}, {8, 0, 1}, {LEAST, 0, 1}, {GREATEST, 0, 1}, {0, -1, 1}, {0, 3, 1}, {0, 0, 65},
            {0, 0, GREATEST}, {8, 0, -1}, {0, 3, -1}};
        for (int[] b : bad) {
            DUE.is("sheet " + b[0] + " " + b[1] + " " + b[2], x.sheet(b[0], b[1], b[2]), WaveBuoys.BAD);
        }
        DUE.is("n below 0", x.sheet(0, 0, -1), WaveBuoys.SIZE);
        DUE.is("n far below 0", x.sheet(0, 0, LEAST), WaveBuoys.SIZE);
        DUE.is("it stays as it was", x.about(0, 1), 64);
        x.put(0, 3, 9);
        x.lose(0, 4);
        DUE.is("a SHEET made anew", x.sheet(0, 1, 5), 1);
        DUE.is("as many as told", x.about(0, 1), 5);
        DUE.is("new SORT", x.about(0, 0), 1);
        DUE.is("0 again", x.get(0, 3), 0);
        DUE.is("told again", x.stands(0, 4), 1);
    }

    private static void drop() {
        DUE.promise(3, "drop");
        WaveBuoys x = with(2, 1, 2, 3);
        DUE.is("below", x.drop(-1), WaveBuoys.BAD);
        DUE.is("above", x.drop(8), WaveBuoys.BAD);
        DUE.is("a missing one", x.drop(1), WaveBuoys.NOTHING);
        DUE.is("how many", x.drop(0), 3);
        DUE.is("missing then", x.drop(0), WaveBuoys.NOTHING);
        DUE.failed("missing for get", x.get(0, 0), WaveBuoys.NOTHING);
        DUE.is("not counted", x.count(0), 0);
        x.sheet(0, 2, 3);
        DUE.is("nothing of the old", x.get(0, 2), 0);
        x.sheet(7, 0, 0);
        DUE.is("one of none", x.drop(7), 0);
    }

    private static void put() {
        DUE.promise(4, "put");
        int[][] ends = {{-128, 127}, {-32768, 32767}, {LEAST, GREATEST}};
        for (int sort = 0; sort < 3; sort++) {
            WaveBuoys x = with(sort, 0, 0);
            DUE.is("least", x.put(0, 0, ends[sort][0]), 1);
            DUE.is("greatest", x.put(0, 1, ends[sort][1]), 1);
            DUE.is("least kept", x.get(0, 0), ends[sort][0]);
            DUE.is("greatest kept", x.get(0, 1), ends[sort][1]);
            if (sort < 2) {
                DUE.is("below", x.put(0, 1, ends[sort][0] - 1), WaveBuoys.WIDE);
                DUE.is("above", x.put(0, 0, ends[sort][1] + 1), WaveBuoys.WIDE);
                DUE.is("stays", x.get(0, 0), ends[sort][0]);
            }
        }
        WaveBuoys x = with(0, 1, 2, 3);
        DUE.is("SHEET below", x.put(-1, 9, 999), WaveBuoys.BAD);
        DUE.is("SHEET above", x.put(8, 0, 0), WaveBuoys.BAD);
        DUE.is("missing", x.put(1, 9, 999), WaveBuoys.NOTHING);
        DUE.is("place below", x.put(0, -1, 999), WaveBuoys.PLACE);
        DUE.is("place above", x.put(0, 3, 999), WaveBuoys.PLACE);
        DUE.is("place far above", x.put(0, GREATEST, 0), WaveBuoys.PLACE);
        x.lose(0, 1);
        DUE.is("a LOST one", x.put(0, 1, 7), 1);
        DUE.is("is told", x.stands(0, 1), 1);
        x.lose(0, 1);
        x.fill(0, 1);
        DUE.is("a FILLED one", x.put(0, 1, 7), 1);
        DUE.is("is told, too", x.stands(0, 1), 1);
    }

    private static void get() {
        DUE.promise(5, "get");
        WaveBuoys x = with(2, 5, LEAST, GREATEST);
        DUE.is("first", x.get(0, 0), 5);
        DUE.is("least", x.get(0, 1), LEAST);
        DUE.is("greatest", x.get(0, 2), GREATEST);
        DUE.failed("SHEET below", x.get(-1, 0), WaveBuoys.BAD);
        DUE.failed("SHEET above", x.get(8, 0), WaveBuoys.BAD);
        DUE.failed("missing", x.get(3, 9), WaveBuoys.NOTHING);
        DUE.failed("place below", x.get(0, -1), WaveBuoys.PLACE);
        DUE.failed("place above", x.get(0, 3), WaveBuoys.PLACE);
        x.lose(0, 0);
        DUE.failed("LOST", x.get(0, 0), WaveBuoys.LOST);
    }

    private static void lose() {
        DUE.promise(6, "lose");
        WaveBuoys x = with(1, 4, 5, 6);
        DUE.is("told", x.lose(0, 1), 1);
        DUE.is("again", x.lose(0, 1), 0);
        DUE.is("it is LOST", x.stands(0, 1), 0);
        x.fill(0, 1);
        DUE.is("FILLED", x.lose(0, 1), 1);
        DUE.is("LOST again", x.stands(0, 1), 0);
        DUE.is("SHEET below", x.lose(-1, 0), WaveBuoys.BAD);
        DUE.is("SHEET above", x.lose(8, 0), WaveBuoys.BAD);
        DUE.is("missing", x.lose(7, 9), WaveBuoys.NOTHING);
        DUE.is("place below", x.lose(0, -1), WaveBuoys.PLACE);
        DUE.is("place above", x.lose(0, 3), WaveBuoys.PLACE);
    }

    private static void stands() {
        DUE.promise(7, "stands");
        WaveBuoys x = with(1, 4, 5, 6, 7);
        x.lose(0, 1);
        x.fill(0, 1);
        x.lose(0, 2);
        DUE.is("told", x.stands(0, 0), 1);
        DUE.is("FILLED", x.stands(0, 1), 2);
        DUE.is("LOST", x.stands(0, 2), 0);
        DUE.is("SHEET below", x.stands(-1, 0), WaveBuoys.BAD);
        DUE.is("SHEET above", x.stands(8, 0), WaveBuoys.BAD);
        DUE.is("missing", x.stands(1, 9), WaveBuoys.NOTHING);
        DUE.is("place below", x.stands(0, -1), WaveBuoys.PLACE);
        DUE.is("place above", x.stands(0, 4), WaveBuoys.PLACE);
    }

    private static void copy() {
        DUE.promise(8, "copy");
        WaveBuoys x = with(1, 10, 11, 12, 13, 14, 15);
        x.lose(0, 1);
        x.fill(0, 1);
        x.lose(0, 2);
        tell(x, 1, 1, 20, 21, 22, 23);
        DUE.is("from one to another", x.copy(0, 0, 1, 1, 3), 3);
        due(x, 1, "20 10 f11 -");
        due(x, 0, "10 f11 - 13 14 15");
        DUE.is("on itself, on", x.copy(0, 0, 0, 1, 5), 5);
        due(x, 0, "10 10 f11 - 13 14");
        DUE.is("on itself, back", x.copy(0, 1, 0, 0, 5), 5);
        due(x, 0, "10 f11 - 13 14 14");
        DUE.is("where it is", x.copy(0, 0, 0, 0, 6), 6);
        due(x, 0, "10 f11 - 13 14 14");
        DUE.is("none, at both ends", x.copy(0, 6, 1, 4, 0), 0);
        DUE.is("all", x.copy(1, 0, 0, 2, 4), 4);
        due(x, 0, "10 f11 20 10 f11 -");
    }

    private static void copyFails() {
        WaveBuoys x = with(1, 1, 2, 3, 4);
        tell(x, 1, 1, 5, 6);
        tell(x, 2, 2, 7, 8);
        DUE.is("from below", x.copy(-1, 0, 3, 0, -1), WaveBuoys.BAD);
        DUE.is("from above", x.copy(8, 0, 3, 0, -1), WaveBuoys.BAD);
        DUE.is("to below", x.copy(3, 0, -1, 0, -1), WaveBuoys.BAD);
        DUE.is("to above", x.copy(3, 0, 8, 0, -1), WaveBuoys.BAD);
        DUE.is("from missing", x.copy(3, 0, 0, 0, -1), WaveBuoys.NOTHING);
        DUE.is("to missing", x.copy(0, 0, 3, 0, -1), WaveBuoys.NOTHING);
        DUE.is("unlike", x.copy(0, 9, 2, 9, -1), WaveBuoys.UNLIKE);
        DUE.is("size", x.copy(0, 9, 1, 9, -1), WaveBuoys.SIZE);
        DUE.is("size of the least", x.copy(0, 0, 1, 0, LEAST), WaveBuoys.SIZE);
        DUE.is("beyond the first", x.copy(1, 1, 0, 0, 2), WaveBuoys.PLACE);
        DUE.is("beyond the second", x.copy(0, 0, 1, 1, 2), WaveBuoys.PLACE);
        DUE.is("a below", x.copy(0, -1, 1, 0, 1), WaveBuoys.PLACE);
        DUE.is("b below", x.copy(0, 0, 1, -1, 1), WaveBuoys.PLACE);
        DUE.is("none, a above", x.copy(0, 5, 1, 0, 0), WaveBuoys.PLACE);
        DUE.is("none, b above", x.copy(0, 0, 1, 3, 0), WaveBuoys.PLACE);
        DUE.is("none, a below", x.copy(0, -1, 1, 0, 0), WaveBuoys.PLACE);
        DUE.is("far too many", x.copy(0, 1, 1, 1, GREATEST), WaveBuoys.PLACE);
        DUE.is("far away", x.copy(0, GREATEST, 1, GREATEST, GREATEST), WaveBuoys.PLACE);
        due(x, 0, "1 2 3 4");
        due(x, 1, "5 6");
    }

    private static void spikes() {
        DUE.promise(9, "spikes");
        WaveBuoys x = with(1, 9, 0, 5, 0, 0, 9);
        DUE.is("by 10", x.spikes(0, 10), 0);
        // sizes: 14, 10, 5, 9
        DUE.is("above 2 d alone", x.spikes(0, 5), 1);
        due(x, 0, "9 - 5 0 0 9");
        DUE.is("not beside LOST ones", x.spikes(0, 0), 2);
        due(x, 0, "9 - 5 - - 9");
        DUE.is("none is left", x.spikes(0, 0), 0);
        x = with(1, 0, 10, 0, 10, 0);
        DUE.is("all as it was ahead", x.spikes(0, 9), 3);
        due(x, 0, "0 - - - 0");
        x = with(2, LEAST, GREATEST, LEAST);
        DUE.is("the greatest of all", x.spikes(0, GREATEST), 1);
        x = with(2, 0, GREATEST, 0);
        DUE.is("as great as 2 d", x.spikes(0, GREATEST), 0);
        x = with(1, 4, 0, 4);
        x.lose(0, 1);
        x.fill(0, 1);
        x.put(0, 0, 40);
        DUE.is("a FILLED one", x.spikes(0, 10), 1);
        x = with(1, 1, 2);
        DUE.is("none between", x.spikes(0, 0), 0);
        x.sheet(1, 0, 0);
        DUE.is("none at all", x.spikes(1, 0), 0);
        DUE.is("d below 0", x.spikes(5, -1), WaveBuoys.BAD);
        DUE.is("SHEET below", x.spikes(-1, 0), WaveBuoys.BAD);
        DUE.is("SHEET above", x.spikes(8, 0), WaveBuoys.BAD);
        DUE.is("missing", x.spikes(5, 0), WaveBuoys.NOTHING);
    }

    private static void fill() {
        DUE.promise(10, "fill");
        WaveBuoys x = with(0, 0, 10, 0, 0, 0, -7, 0, 3, 0);
        int[] lost = {0, 2, 3, 4, 6, 8};
        for (int i : lost) {
            x.lose(0, i);
        }
        DUE.is("m 0", x.fill(0, 0), 0);
        DUE.is("m 1", x.fill(0, 1), 1);
        due(x, 0, "- 10 - - - -7 f-2 3 -");
        DUE.is("m 2", x.fill(0, 2), 0);
        DUE.is("m 3", x.fill(0, 3), 3);
        // 10 and -17 / 4, -34 / 4, -51 / 4, each cut toward 0
        due(x, 0, "- 10 f6 f2 f-2 -7 f-2 3 -");
        DUE.is("those at the ends are no INNER ones", x.fill(0, 64), 0);
        x = with(2, LEAST, 0, 0, GREATEST);
        x.lose(0, 1);
        x.lose(0, 2);
        DUE.is("as wide as may be", x.fill(0, 64), 2);
        due(x, 0, "-2147483648 f-715827883 f715827882 2147483647");
        x.lose(0, 0);
        x.lose(0, 3);
        x.lose(0, 1);
        x.lose(0, 2);
        DUE.is("all LOST", x.fill(0, 64), 0);
        x = new WaveBuoys();
        x.sheet(0, 1, 64);
        x.put(0, 63, 63);
        for (int i = 1; i < 63; i++) {
            x.lose(0, i);
        }
        DUE.is("too long", x.fill(0, 61), 0);
        DUE.is("as long", x.fill(0, 62), 62);
        DUE.is("straight", x.get(0, 40), 40);
        DUE.is("m below", x.fill(5, -1), WaveBuoys.BAD);
        DUE.is("m above", x.fill(5, 65), WaveBuoys.BAD);
        DUE.is("SHEET below", x.fill(-1, 0), WaveBuoys.BAD);
        DUE.is("SHEET above", x.fill(8, 0), WaveBuoys.BAD);
        DUE.is("missing", x.fill(5, 64), WaveBuoys.NOTHING);
    }

    private static void about() {
        DUE.promise(11, "about");
        WaveBuoys x = with(1, 1, 2, 3, 4, 5, 6, 7, 8, 9);
        int[] none = {1, 9, 0, 0, 0, 0};
        dueAbout(x, 0, none);
        int[] lost = {0, 2, 4, 5, 7, 8};
        for (int i : lost) {
            x.lose(0, i);
        }
        dueAbout(x, 0, 1, 9, 4, 2, 6, 0);
        x.fill(0, 2);
        dueAbout(x, 0, 1, 9, 2, 2, 3, 3);
        x.sheet(1, 0, 0);
        dueAbout(x, 1, 0, 0, 0, 0, 0, 0);
        x.sheet(2, 2, 3);
        x.lose(2, 0);
        x.lose(2, 1);
        x.lose(2, 2);
        dueAbout(x, 2, 2, 3, 1, 3, 3, 0);
        DUE.is("what below", x.about(7, -1), WaveBuoys.BAD);
        DUE.is("what above", x.about(7, 6), WaveBuoys.BAD);
        DUE.is("SHEET below", x.about(-1, 0), WaveBuoys.BAD);
        DUE.is("SHEET above", x.about(8, 0), WaveBuoys.BAD);
        DUE.is("missing", x.about(7, 5), WaveBuoys.NOTHING);
    }

    private static void dueAbout(WaveBuoys x, int k, int... facts) {
        for (int what = 0; what < 6; what++) {
            DUE.is("about " + k + " " + what, x.about(k, what), facts[what]);
        }
    }

    /** A SHEET as words: a number, f and a number where it is FILLED, - where it is LOST. */
    private static void due(WaveBuoys x, int k, String words) {
        String[] word = words.split(" ");
        DUE.is("how many in " + words, x.about(k, 1), word.length);
        for (int i = 0; i < word.length; i++) {
            boolean filled = word[i].startsWith("f");
            boolean lost = word[i].equals("-");
            DUE.is("how " + i + " stands in " + words, x.stands(k, i), lost ? 0 : filled ? 2 : 1);
            if (lost) {
                DUE.failed("number " + i + " in " + words, x.get(k, i), WaveBuoys.LOST);
            } else {
                DUE.is("number " + i + " in " + words, x.get(k, i), Long.parseLong(filled ? word[i].substring(1) : word[i]));
            }
        }
    }
}
