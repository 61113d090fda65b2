/** Promises 1 to 32: runs of 512 mixed calls, each answer held against the model's; and runs of
 *  wild numbers, which no call may fail to answer. The calls are the same each time. */
public final class ModelTest {
    private static final int RUNS = 1500;
    private static final int CALLS = 512;
    private static final int START = 66;
    private static final int KINDS = 31;
    private static final int[] WILD = {Integer.MIN_VALUE, Integer.MIN_VALUE + 1, -1000001, -1000000, -1001, -129, -128, -2, -1, 0,
        1, 2, 3, 7, 8, 63, 64, 65, 100, 101, 127, 128, 1000, 1001, 32767, 32768, 1000000, 1000001, Integer.MAX_VALUE - 1,
        Integer.MAX_VALUE};
    private static final Due DUE = new Due();

    private final WaveBuoys x = new WaveBuoys();
    private final Model model = new Model();
    private final int run;
    private final int wildness;
    private final int[] a = new int[5];
    private long state;

    private ModelTest(int run) {
        this.run = run;
        this.state = run * 7919L + 17;
        int[] wildnesses = {0, 3, 10, 60};
        this.wildness = wildnesses[run % 4];
    }

    public static void main(String[] args) {
        for (int run = 0; run < RUNS; run++) {
            new ModelTest(run).play();
        }
        DUE.end();
    }

    private int below(int n) {
        state = state * 6364136223846793005L + 1442695040888963407L;
        return (int) ((state >>> 33) % n);
    }

    /** A number from .. to, or now and then a wild one. */
    private int some(int from, int to) {
        if (below(100) < wildness) {
            return WILD[below(WILD.length)];
        }
        return from + below(to - from + 1);
    }

    private int k() {
        return some(0, run % 3 == 0 ? 7 : 2);
    }

    private int row() {
        return some(0, run % 3 == 0 ? 5 : 2);
    }

    private int size() {
        int[] sizes = {0, 1, 2, 4, 8, 16, 32, 64, 64, 40, 33, 20};
        int usual = sizes[run / 4 % sizes.length];
        return below(4) == 0 ? some(0, 64) : some(usual, usual);
    }

    private int value() {
        int[] ways = {3, 100, 1000, 32767, Integer.MAX_VALUE / 2};
        int way = ways[run / 5 % ways.length];
        return some(-way, way);
    }

    private void play() {
        for (int call = 0; call < CALLS - 1; call++) {
            int kind = below(KINDS + 22);
            if (kind >= KINDS + 6) {
                kind = kind % 2 == 0 ? 2 : 5;
            } else if (kind >= KINDS) {
                kind = 11;
            }
            if (call % 50 == 49) {
                due("digest", x.digest(), model.digest());
            } else if (below(12) == 0 && run % 2 == 0 && call + START < CALLS) {
                startOver();
                call += START;
            } else {
                play(kind);
            }
        }
        due("digest at the end", x.digest(), model.digest());
    }

    /** A SHEET full of numbers and the ROW of it. */
    private void startOver() {
        a[0] = below(3);
        a[1] = below(3);
        a[2] = size();
        due("sheet", x.sheet(a[0], a[1], a[2]), model.sheet(a[0], a[1], a[2]));
        int k = a[0];
        for (int i = 0; i < 64; i++) {
            int v = value();
            due("put", x.put(k, i, v), model.put(k, i, v));
        }
        a[1] = below(3);
        due("raise", x.raise(k, a[1]), model.raise(k, a[1]));
    }

    private void due(String call, long got, long want) {
        if (got != want) {
            DUE.is("run " + run + ", " + call + " (" + a[0] + ", " + a[1] + ", " + a[2] + ", " + a[3] + ", " + a[4] + ")", got, want);
        }
    }

    private void give(int a0, int a1, int a2, int a3, int a4) {
        a[0] = a0;
        a[1] = a1;
        a[2] = a2;
        a[3] = a3;
        a[4] = a4;
    }

    private void play(int kind) {
        if (kind < 10) {
            playSheets(kind);
        } else if (kind < 22) {
            playRows(kind);
        } else {
            playOthers(kind);
        }
    }

    private void playSheets(int kind) {
        switch (kind) {
            case 0 -> {
                give(k(), some(0, 2), size(), 0, 0);
                due("sheet", x.sheet(a[0], a[1], a[2]), model.sheet(a[0], a[1], a[2]));
            }
            case 1 -> {
                give(k(), 0, 0, 0, 0);
                boolean seldom = below(3) == 0;
                if (seldom) {
                    due("drop", x.drop(a[0]), model.drop(a[0]));
                }
            }
            case 2 -> {
                give(k(), some(0, 63), value(), 0, 0);
                due("put", x.put(a[0], a[1], a[2]), model.put(a[0], a[1], a[2]));
            }
            case 3 -> {
                give(k(), some(-1, 64), 0, 0, 0);
                due("get", x.get(a[0], a[1]), model.get(a[0], a[1]));
            }
            case 4 -> {
                give(k(), some(-1, 64), 0, 0, 0);
                due("stands", x.stands(a[0], a[1]), model.stands(a[0], a[1]));
            }
            case 5 -> {
                give(k(), some(0, 63), 0, 0, 0);
                due("lose", x.lose(a[0], a[1]), model.lose(a[0], a[1]));
            }
            case 6 -> {
                give(k(), some(0, 20), k(), some(0, 20), some(0, 20));
                due("copy", x.copy(a[0], a[1], a[2], a[3], a[4]), model.copy(a[0], a[1], a[2], a[3], a[4]));
            }
            case 7 -> {
                give(k(), Math.abs(value() / 2), 0, 0, 0);
                due("spikes", x.spikes(a[0], a[1]), model.spikes(a[0], a[1]));
            }
            case 8 -> {
                give(k(), some(0, 8), 0, 0, 0);
                due("fill", x.fill(a[0], a[1]), model.fill(a[0], a[1]));
            }
            default -> {
                give(k(), some(0, 5), 0, 0, 0);
                due("about", x.about(a[0], a[1]), model.about(a[0], a[1]));
            }
        }
    }

    private void playRows(int kind) {
        switch (kind) {
            case 10 -> {
                give(row(), some(-1, 64), 0, 0, 0);
                due("number", x.number(a[0], a[1]), model.number(a[0], a[1]));
            }
            case 11 -> {
                give(k(), row(), 0, 0, 0);
                due("raise", x.raise(a[0], a[1]), model.raise(a[0], a[1]));
            }
            case 12 -> {
                give(row(), some(0, 3), 0, 0, 0);
                due("turn", x.turn(a[0], a[1]), model.turn(a[0], a[1]));
            }
            case 13 -> {
                give(row(), some(0, 10), some(0, 70), 0, 0);
                due("part", x.part(a[0], a[1], a[2]), model.part(a[0], a[1], a[2]));
            }
            case 14 -> {
                int most = below(3) == 0 ? 1000 : 3;
                give(row(), some(-most, most), row(), some(-most, most), 0);
                due("mix", x.mix(a[0], a[1], a[2], a[3]), model.mix(a[0], a[1], a[2], a[3]));
            }
            case 15 -> {
                give(row(), some(0, 20), some(10, 70), 0, 0);
                due("force", x.force(a[0], a[1], a[2]), model.force(a[0], a[1], a[2]));
            }
            case 16 -> {
                give(row(), row(), 0, 0, 0);
                due("cross", x.cross(a[0], a[1]), model.cross(a[0], a[1]));
            }
            case 17 -> {
                give(row(), 0, 0, 0, 0);
                due("waves", x.waves(a[0]), model.waves(a[0]));
            }
            case 18 -> {
                give(row(), some(0, 12), some(0, 4), 0, 0);
                due("wave", x.wave(a[0], a[1], a[2]), model.wave(a[0], a[1], a[2]));
            }
            case 19 -> {
                give(row(), some(0, 1), 0, 0, 0);
                due("third", x.third(a[0], a[1]), model.third(a[0], a[1]));
            }
            case 20 -> {
                give(row(), value(), some(0, 1), 0, 0);
                long b = below(5) == 0 ? (long) a[1] << 32 : a[1];
                due("groups", x.groups(a[0], b, a[2]), model.groups(a[0], b, a[2]));
            }
            default -> {
                give(row(), row(), row(), some(1, 100), 0);
                due("heading", x.heading(a[0], a[1], a[2], a[3]), model.heading(a[0], a[1], a[2], a[3]));
            }
        }
    }

    private void playOthers(int kind) {
        switch (kind) {
            case 22 -> {
                give(k(), 0, 0, 0, 0);
                due("send", x.send(a[0]), model.send(a[0]));
            }
            case 23, 24 -> {
                give(some(0, 9), 0, 0, 0, 0);
                due("miss", x.miss(a[0]), model.miss(a[0]));
            }
            case 25 -> {
                give(k(), 0, 0, 0, 0);
                due("receive", x.receive(a[0]), model.receive(a[0]));
            }
            case 26 -> {
                boolean seldom = below(5) == 0;
                give(some(50, 120), some(0, 60), some(0, 4), 0, 0);
                if (seldom) {
                    due("rule", x.rule(a[0], a[1], a[2]), model.rule(a[0], a[1], a[2]));
                }
            }
            case 27 -> {
                give(some(0, 140), 0, 0, 0, 0);
                due("hear", x.hear(a[0]), model.hear(a[0]));
            }
            case 28 -> {
                boolean seldom = below(5) == 0;
                give(some(-9, 9), some(-9, 9), some(0, 9), some(1, 5), 0);
                if (seldom) {
                    due("anchor", x.anchor(a[0], a[1], a[2], a[3]), model.anchor(a[0], a[1], a[2], a[3]));
                }
            }
            case 29 -> {
                give(some(-14, 14), some(-14, 14), 0, 0, 0);
                due("fix", x.fix(a[0], a[1]), model.fix(a[0], a[1]));
            }
            default -> {
                give(some(0, 9), 0, 0, 0, 0);
                due("count", x.count(a[0]), model.count(a[0]));
            }
        }
    }
}
