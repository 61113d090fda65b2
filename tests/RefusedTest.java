import java.util.ArrayList;
import java.util.List;

/** Promises 2 to 31: a refused call leaves everything as it was. Two objects are made alike; one is
 *  given each call that fails, the other none, and both must tell the same all along: by digest() at
 *  once, and of what it does not tell (what was SENT, the rule, the anchor) by the calls behind. */
public final class RefusedTest {
    private static final int LEAST = Integer.MIN_VALUE;
    private static final int GREATEST = Integer.MAX_VALUE;
    private static final long MOST = 4000000000000000L;
    private static final int[] FAILURES = {WaveBuoys.BAD, WaveBuoys.NO, WaveBuoys.NOTHING, WaveBuoys.UNLIKE, WaveBuoys.SIZE,
        WaveBuoys.PLACE, WaveBuoys.WIDE, WaveBuoys.LOST, WaveBuoys.FAR};
    private static final Due DUE = new Due();

    interface Call {
        long on(WaveBuoys x);
    }

    private static final class Refused {
        final String name;
        final long due;
        final Call call;

        Refused(String name, long due, Call call) {
            this.name = name;
            this.due = due;
            this.call = call;
        }
    }

    private final List<Refused> calls = new ArrayList<>();

    public static void main(String[] args) {
        RefusedTest test = new RefusedTest();
        test.sheets();
        test.samples();
        test.copies();
        test.rowsFromSheets();
        test.rows();
        test.wavesAndWays();
        test.others();
        test.play();
        DUE.end();
    }

    private void add(String name, int due, Call call) {
        calls.add(new Refused(name, due, call));
    }

    private void addLong(String name, int due, Call call) {
        calls.add(new Refused(name, WaveBuoys.FAILED + due, call));
    }

    /** SHEETS 0 to 3 (4 to 7 are missing), ROWS 0 to 4 (5 is empty), 40 SAMPLES SENT, two of four
     *  PACKS LOST, a WARNING that is held, and two places OUT of the three that make it ADRIFT. */
    private static WaveBuoys made() {
        WaveBuoys x = new WaveBuoys();
        Made.sheet(x, 0, 2, Made.times(40, "7"));
        x.put(0, 39, 99);
        x.send(0);
        x.miss(1);
        x.miss(2);
        Made.sheet(x, 0, 0, "3 - -5 f6");
        Made.sheet(x, 1, 0, "1 2");
        Made.sheet(x, 2, 1, "300 -300 300");
        Made.row(x, 0, MOST, -MOST, 5);
        Made.row(x, 1, 1001, 3, 5);
        Made.row(x, 2, 4, 4, 4);
        Made.row(x, 3, -1, 2, -3, 4);
        Made.row(x, 4, 4000000001L);
        Made.sheet(x, 3, 2, "");
        x.raise(3, 5);
        x.rule(20, 10, 2);
        x.hear(20);
        x.anchor(100, -100, 5, 3);
        x.fix(100, -94);
        x.fix(106, -100);
        return x;
    }

    private void play() {
        WaveBuoys same = made();
        long digest = same.digest();
        String told = told(same);
        for (int first = 0; first < calls.size(); first += 100) {
            WaveBuoys x = made();
            DUE.is("digest of one made alike", x.digest(), digest);
            for (int c = first; c < Math.min(first + 100, calls.size()); c++) {
                Refused refused = calls.get(c);
                DUE.is(refused.name, refused.call.on(x), refused.due);
                DUE.is("digest behind " + refused.name, x.digest(), digest);
            }
            DUE.is("what is told behind calls from " + calls.get(first).name + " on", told(x), told);
        }
        // each alone, too: what one call spoils another may hide
        for (Refused refused : calls) {
            WaveBuoys x = made();
            refused.call.on(x);
            DUE.is("what is told behind " + refused.name, told(x), told);
        }
        for (int failure : FAILURES) {
            int found = 0;
            for (Refused refused : calls) {
                found += refused.due == failure || refused.due == WaveBuoys.FAILED + failure ? 1 : 0;
            }
            DUE.holds("calls that fail with " + failure, found > 0);
        }
        System.out.println(calls.size() + " refused calls");
    }

    /** What calls behind tell of all that the object holds. */
    private static String told(WaveBuoys x) {
        StringBuilder told = new StringBuilder();
        told.append(x.digest());
        for (int row = 0; row < 6; row++) {
            told.append(' ').append(x.waves(row)).append(' ').append(x.third(row, 0));
        }
        told.append(' ').append(x.receive(6)).append(' ').append(x.miss(0)).append(' ').append(x.miss(1));
        int[] heard = {10, 10, 15, 10, 20, 20, 19, 20};
        for (int v : heard) {
            told.append(' ').append(x.hear(v));
        }
        int[][] places = {{100, -106}, {103, -96}, {104, -96}, {100, -100}};
        for (int[] p : places) {
            told.append(' ').append(x.fix(p[0], p[1]));
        }
        return told.append(' ').append(x.digest()).toString();
    }

    private void sheets() {
        int[] none = {-1, 8, LEAST, GREATEST};
        for (int k : none) {
            add("sheet " + k, WaveBuoys.BAD, x -> x.sheet(k, 0, 1));
            add("drop " + k, WaveBuoys.BAD, x -> x.drop(k));
            add("put " + k, WaveBuoys.BAD, x -> x.put(k, 0, 1));
            addLong("get " + k, WaveBuoys.BAD, x -> x.get(k, 0));
            add("lose " + k, WaveBuoys.BAD, x -> x.lose(k, 0));
            add("stands " + k, WaveBuoys.BAD, x -> x.stands(k, 0));
            add("copy from " + k, WaveBuoys.BAD, x -> x.copy(k, 0, 1, 0, 1));
            add("copy to " + k, WaveBuoys.BAD, x -> x.copy(1, 0, k, 0, 1));
            add("spikes " + k, WaveBuoys.BAD, x -> x.spikes(k, 0));
            add("fill " + k, WaveBuoys.BAD, x -> x.fill(k, 64));
            add("about " + k, WaveBuoys.BAD, x -> x.about(k, 0));
            add("raise " + k, WaveBuoys.BAD, x -> x.raise(k, 0));
            add("send " + k, WaveBuoys.BAD, x -> x.send(k));
            add("receive " + k, WaveBuoys.BAD, x -> x.receive(k));
        }
        add("drop of a missing one", WaveBuoys.NOTHING, x -> x.drop(4));
        add("spikes of a missing one", WaveBuoys.NOTHING, x -> x.spikes(5, 0));
        add("fill of a missing one", WaveBuoys.NOTHING, x -> x.fill(6, 64));
        add("about of a missing one", WaveBuoys.NOTHING, x -> x.about(7, 0));
        add("send of a missing one", WaveBuoys.NOTHING, x -> x.send(4));
        int[] sorts = {-1, 3, LEAST, GREATEST};
        for (int sort : sorts) {
            add("SORT " + sort, WaveBuoys.BAD, x -> x.sheet(0, sort, 1));
            add("SORT " + sort + " of a missing one", WaveBuoys.BAD, x -> x.sheet(4, sort, 1));
        }
        add("65 SAMPLES", WaveBuoys.BAD, x -> x.sheet(0, 0, 65));
        add("65 SAMPLES of a missing one", WaveBuoys.BAD, x -> x.sheet(4, 0, 65));
        add("-1 SAMPLES", WaveBuoys.SIZE, x -> x.sheet(0, 0, -1));
        add("-1 SAMPLES of a missing one", WaveBuoys.SIZE, x -> x.sheet(4, 0, -1));
        add("the least number of SAMPLES", WaveBuoys.SIZE, x -> x.sheet(1, 2, LEAST));
        add("spikes by -1", WaveBuoys.BAD, x -> x.spikes(2, -1));
        add("spikes by the least", WaveBuoys.BAD, x -> x.spikes(2, LEAST));
        add("fill of -1", WaveBuoys.BAD, x -> x.fill(0, -1));
        add("fill of 65", WaveBuoys.BAD, x -> x.fill(0, 65));
        add("about -1", WaveBuoys.BAD, x -> x.about(0, -1));
        add("about 6", WaveBuoys.BAD, x -> x.about(0, 6));
    }

    private void samples() {
        int[] places = {-1, 4, 5, 63, 64, LEAST, GREATEST};
        for (int i : places) {
            add("put at " + i, WaveBuoys.PLACE, x -> x.put(0, i, 1));
            addLong("get at " + i, WaveBuoys.PLACE, x -> x.get(0, i));
            add("lose at " + i, WaveBuoys.PLACE, x -> x.lose(0, i));
            add("stands at " + i, WaveBuoys.PLACE, x -> x.stands(0, i));
        }
        add("put at 0 of none", WaveBuoys.PLACE, x -> x.put(3, 0, 1));
        add("lose at 0 of none", WaveBuoys.PLACE, x -> x.lose(3, 0));
        add("put in a missing one", WaveBuoys.NOTHING, x -> x.put(4, 0, 1));
        addLong("get of a missing one", WaveBuoys.NOTHING, x -> x.get(5, 0));
        add("lose in a missing one", WaveBuoys.NOTHING, x -> x.lose(6, 0));
        add("stands in a missing one", WaveBuoys.NOTHING, x -> x.stands(7, 0));
        int[] wide = {128, -129, LEAST, GREATEST};
        for (int v : wide) {
            add("a byte " + v, WaveBuoys.WIDE, x -> x.put(0, 0, v));
            add("a byte " + v + " where it is LOST", WaveBuoys.WIDE, x -> x.put(0, 1, v));
            add("a byte " + v + " where it is FILLED", WaveBuoys.WIDE, x -> x.put(0, 3, v));
        }
        add("a short 32768", WaveBuoys.WIDE, x -> x.put(2, 1, 32768));
        add("a short -32769", WaveBuoys.WIDE, x -> x.put(2, 1, -32769));
        addLong("get of a LOST one", WaveBuoys.LOST, x -> x.get(0, 1));
    }

    private void copies() {
        add("copy from a missing one", WaveBuoys.NOTHING, x -> x.copy(4, 0, 0, 0, 1));
        add("copy to a missing one", WaveBuoys.NOTHING, x -> x.copy(0, 0, 4, 0, 1));
        add("copy to an unlike one", WaveBuoys.UNLIKE, x -> x.copy(1, 0, 2, 0, 1));
        add("copy of none to an unlike one", WaveBuoys.UNLIKE, x -> x.copy(1, 0, 2, 0, 0));
        add("copy of -1", WaveBuoys.SIZE, x -> x.copy(1, 0, 0, 0, -1));
        add("copy of the least", WaveBuoys.SIZE, x -> x.copy(1, 0, 0, 0, LEAST));
        int[][] beyond = {{1, 0, 0, 0, 3}, {1, 1, 0, 0, 2}, {0, 0, 1, 0, 3}, {0, 0, 1, 1, 2}, {1, -1, 0, 0, 1}, {1, 0, 0, -1, 1},
            {1, 3, 0, 0, 0}, {1, 0, 0, 5, 0}, {0, 0, 0, 1, 4}, {0, 1, 0, 0, 4}, {0, 0, 0, 0, GREATEST}, {0, 1, 0, 1, GREATEST},
            {0, GREATEST, 0, 0, 1}, {0, 0, 0, GREATEST, 1}, {0, LEAST, 0, 0, 1}, {3, 0, 3, 0, 1}};
        for (int[] b : beyond) {
            add("copy " + b[0] + " " + b[1] + " " + b[2] + " " + b[3] + " " + b[4], WaveBuoys.PLACE,
                x -> x.copy(b[0], b[1], b[2], b[3], b[4]));
        }
    }

    private void rowsFromSheets() {
        int[] none = {-1, 6, LEAST, GREATEST};
        for (int row : none) {
            add("raise to " + row, WaveBuoys.BAD, x -> x.raise(1, row));
            addLong("number of " + row, WaveBuoys.BAD, x -> x.number(row, 0));
            add("turn of " + row, WaveBuoys.BAD, x -> x.turn(row, 0));
            add("part of " + row, WaveBuoys.BAD, x -> x.part(row, 0, 0));
            add("mix of " + row, WaveBuoys.BAD, x -> x.mix(row, 1, 2, 1));
            add("mix with " + row, WaveBuoys.BAD, x -> x.mix(2, 1, row, 1));
            addLong("force of " + row, WaveBuoys.BAD, x -> x.force(row, 0, 0));
            addLong("cross of " + row, WaveBuoys.BAD, x -> x.cross(row, 2));
            addLong("cross with " + row, WaveBuoys.BAD, x -> x.cross(2, row));
            add("waves of " + row, WaveBuoys.BAD, x -> x.waves(row));
            addLong("wave of " + row, WaveBuoys.BAD, x -> x.wave(row, 0, 0));
            addLong("third of " + row, WaveBuoys.BAD, x -> x.third(row, 0));
            add("groups of " + row, WaveBuoys.BAD, x -> x.groups(row, 0, 0));
            add("heading of h " + row, WaveBuoys.BAD, x -> x.heading(row, 2, 2, 1));
            add("heading of e " + row, WaveBuoys.BAD, x -> x.heading(2, row, 2, 1));
            add("heading of n " + row, WaveBuoys.BAD, x -> x.heading(2, 2, row, 1));
        }
        add("raise of a missing one", WaveBuoys.NOTHING, x -> x.raise(4, 0));
        add("raise with a LOST one", WaveBuoys.LOST, x -> x.raise(0, 0));
        addLong("number at -1", WaveBuoys.PLACE, x -> x.number(0, -1));
        addLong("number at 3 of three", WaveBuoys.PLACE, x -> x.number(0, 3));
        addLong("number at 0 of none", WaveBuoys.PLACE, x -> x.number(5, 0));
    }

    private void rows() {
        add("turn, how -1", WaveBuoys.BAD, x -> x.turn(2, -1));
        add("turn, how 4", WaveBuoys.BAD, x -> x.turn(2, 4));
        add("FLAT of one", WaveBuoys.NO, x -> x.turn(4, 1));
        add("TWICE of one", WaveBuoys.NO, x -> x.turn(4, 2));
        add("FLAT of none", WaveBuoys.NO, x -> x.turn(5, 1));
        add("TWICE of none", WaveBuoys.NO, x -> x.turn(5, 2));
        add("TONES of three", WaveBuoys.NO, x -> x.turn(2, 3));
        add("TONES of none", WaveBuoys.NO, x -> x.turn(5, 3));
        add("LEVEL beyond", WaveBuoys.FAR, x -> x.turn(0, 0));
        add("FLAT of one that is FAR", WaveBuoys.FAR, x -> x.turn(0, 1));
        add("TWICE of one that is FAR", WaveBuoys.FAR, x -> x.turn(0, 2));
        int[][] parts = {{-1, 0}, {0, -1}, {2, 1}, {LEAST, GREATEST}, {GREATEST, LEAST}, {65, 64}};
        for (int[] p : parts) {
            add("part " + p[0] + " " + p[1], WaveBuoys.BAD, x -> x.part(2, p[0], p[1]));
            addLong("force " + p[0] + " " + p[1], WaveBuoys.BAD, x -> x.force(2, p[0], p[1]));
        }
        int[] factors = {1001, -1001, LEAST, GREATEST};
        for (int f : factors) {
            add("mix by p " + f, WaveBuoys.BAD, x -> x.mix(2, f, 1, 1));
            add("mix by q " + f, WaveBuoys.BAD, x -> x.mix(2, 1, 1, f));
        }
        add("mix of three with four", WaveBuoys.NO, x -> x.mix(2, 1, 3, 1));
        add("mix of four with three", WaveBuoys.NO, x -> x.mix(3, 1, 2, 1));
        add("mix of three with none", WaveBuoys.NO, x -> x.mix(2, 1, 5, 1));
        add("mix of none with three", WaveBuoys.NO, x -> x.mix(5, 1, 2, 1));
        add("mix beyond by the first", WaveBuoys.FAR, x -> x.mix(2, 1, 0, 1));
        add("mix beyond by far", WaveBuoys.FAR, x -> x.mix(0, 1000, 0, 1000));
        add("mix beyond, of the ROW itself", WaveBuoys.FAR, x -> x.mix(0, -1, 0, -1));
        addLong("force of one that is FAR", WaveBuoys.FAR, x -> x.force(0, 0, 0));
        addLong("cross of three and four", WaveBuoys.NO, x -> x.cross(2, 3));
        addLong("cross with one that is FAR", WaveBuoys.FAR, x -> x.cross(2, 0));
        addLong("cross of one that is FAR", WaveBuoys.FAR, x -> x.cross(0, 2));
    }

    private void wavesAndWays() {
        addLong("wave -1", WaveBuoys.PLACE, x -> x.wave(3, -1, 0));
        addLong("wave 1 of one", WaveBuoys.PLACE, x -> x.wave(3, 1, 0));
        addLong("wave 0 of none", WaveBuoys.PLACE, x -> x.wave(5, 0, 0));
        addLong("wave, what -1", WaveBuoys.BAD, x -> x.wave(3, 0, -1));
        addLong("wave, what 5", WaveBuoys.BAD, x -> x.wave(3, 0, 5));
        addLong("third of no WAVE", WaveBuoys.NO, x -> x.third(2, 0));
        addLong("third, what -1", WaveBuoys.BAD, x -> x.third(3, -1));
        addLong("third, what 2", WaveBuoys.BAD, x -> x.third(3, 2));
        add("groups, what -1", WaveBuoys.BAD, x -> x.groups(3, 0, -1));
        add("groups, what 2", WaveBuoys.BAD, x -> x.groups(3, 0, 2));
        add("heading, t 0", WaveBuoys.BAD, x -> x.heading(2, 2, 2, 0));
        add("heading, t 101", WaveBuoys.BAD, x -> x.heading(2, 2, 2, 101));
        add("heading of three and four", WaveBuoys.NO, x -> x.heading(2, 3, 2, 1));
        add("heading of h that is FAR", WaveBuoys.FAR, x -> x.heading(1, 2, 2, 1));
        add("heading of e that is FAR", WaveBuoys.FAR, x -> x.heading(2, 1, 2, 1));
        add("heading of n that is FAR", WaveBuoys.FAR, x -> x.heading(2, 2, 1, 1));
    }

    private void others() {
        int[] packs = {-1, 7, 10, LEAST, GREATEST};
        for (int p : packs) {
            add("miss " + p, WaveBuoys.BAD, x -> x.miss(p));
        }
        int[][] rules = {{5, 5, 0}, {4, 5, 0}, {LEAST, GREATEST, 0}, {9, 5, -1}, {9, 5, 1001}, {9, 5, LEAST}, {9, 5, GREATEST}};
        for (int[] r : rules) {
            add("rule " + r[0] + " " + r[1] + " " + r[2], WaveBuoys.BAD, x -> x.rule(r[0], r[1], r[2]));
        }
        int far = 1000001;
        int[][] anchors = {{far, 0, 9, 1}, {-far, 0, 9, 1}, {0, far, 9, 1}, {0, -far, 9, 1}, {LEAST, 0, 9, 1}, {0, LEAST, 9, 1},
            {0, 0, -1, 1}, {0, 0, far, 1}, {0, 0, 9, 0}, {0, 0, 9, 101}, {0, 0, 9, -1}};
        for (int[] a : anchors) {
            add("anchor " + a[0] + " " + a[1] + " " + a[2] + " " + a[3], WaveBuoys.BAD, x -> x.anchor(a[0], a[1], a[2], a[3]));
        }
        int[][] places = {{far, -100}, {-far, -100}, {100, far}, {100, -far}, {LEAST, 0}, {0, LEAST}, {GREATEST, GREATEST}};
        for (int[] p : places) {
            add("fix " + p[0] + " " + p[1], WaveBuoys.BAD, x -> x.fix(p[0], p[1]));
        }
        int[] whats = {-1, 10, LEAST, GREATEST};
        for (int what : whats) {
            add("count " + what, WaveBuoys.BAD, x -> x.count(what));
        }
    }
}
