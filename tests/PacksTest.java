/** Promises 24 to 32: PACKS, the WARNING, the MOORING, what is counted and the digest. */
public final class PacksTest {
    private static final int LEAST = Integer.MIN_VALUE;
    private static final int GREATEST = Integer.MAX_VALUE;
    private static final Due DUE = new Due();

    public static void main(String[] args) {
        send();
        miss();
        receive();
        mended();
        notMended();
        rule();
        hear();
        holds();
        anchor();
        fix();
        count();
        digest();
        DUE.end();
    }

    /** A new object with SHEET 0 of n SAMPLES, each of an own number; some are LOST, some FILLED. */
    private static WaveBuoys with(int sort, int n) {
        WaveBuoys x = new WaveBuoys();
        x.sheet(0, sort, n);
        for (int i = 0; i < n; i++) {
            x.put(0, i, 100 - 3 * i);
        }
        for (int i = 2; i < n; i += 5) {
            x.lose(0, i);
        }
        x.fill(0, 1);
        for (int i = 4; i < n; i += 7) {
            x.lose(0, i);
        }
        return x;
    }

    /** SHEET 1 is as SHEET 0, but LOST from the places told (from, to, from, to, ..) on. */
    private static void dueAlike(String what, WaveBuoys x, int... gone) {
        DUE.is(what + ": SORT", x.about(1, 0), x.about(0, 0));
        DUE.is(what + ": SAMPLES", x.about(1, 1), x.about(0, 1));
        int n = x.about(0, 1);
        for (int i = 0; i < n; i++) {
            boolean lost = false;
            for (int g = 0; g < gone.length; g += 2) {
                lost |= i >= gone[g] && i <= gone[g + 1];
            }
            DUE.is(what + ": how " + i + " stands", x.stands(1, i), lost ? 0 : x.stands(0, i));
            DUE.is(what + ": number " + i, x.get(1, i), lost ? WaveBuoys.FAILED + WaveBuoys.LOST : x.get(0, i));
        }
    }

    private static void send() {
        DUE.promise(24, "send");
        int[][] many = {{0, 0}, {1, 2}, {7, 2}, {8, 2}, {9, 3}, {16, 3}, {24, 4}, {25, 5}, {32, 5}, {33, 7}, {40, 7},
            {41, 8}, {56, 9}, {57, 10}, {64, 10}};
        for (int[] m : many) {
            WaveBuoys x = with(1, m[0]);
            DUE.is("PACKS of " + m[0], x.send(0), m[1]);
            DUE.is("count(1) of " + m[0], x.count(1), m[1]);
        }
        WaveBuoys x = with(1, 64);
        x.send(0);
        x.miss(9);
        x.miss(0);
        DUE.is("SHEET below", x.send(-1), WaveBuoys.BAD);
        DUE.is("SHEET above", x.send(8), WaveBuoys.BAD);
        DUE.is("missing", x.send(1), WaveBuoys.NOTHING);
        DUE.is("PACKS stay", x.count(1), 10);
        DUE.is("LOST ones stay", x.count(2), 2);
        x.sheet(1, 0, 3);
        DUE.is("another one", x.send(1), 2);
        DUE.is("none of it is LOST", x.count(2), 0);
        x.put(1, 0, 9);
        x.drop(1);
        DUE.is("received", x.receive(0), 0);
        DUE.is("as it was", x.get(0, 0), 0);
        DUE.is("three", x.about(0, 1), 3);
    }

    private static void miss() {
        DUE.promise(25, "miss");
        WaveBuoys x = with(1, 33);
        DUE.is("nothing was SENT", x.miss(0), WaveBuoys.BAD);
        x.send(0);
        DUE.is("below", x.miss(-1), WaveBuoys.BAD);
        DUE.is("above", x.miss(7), WaveBuoys.BAD);
        DUE.is("least", x.miss(LEAST), WaveBuoys.BAD);
        DUE.is("greatest", x.miss(GREATEST), WaveBuoys.BAD);
        for (int p = 0; p < 7; p++) {
            DUE.is("PACK " + p, x.miss(p), 1);
            DUE.is("PACK " + p + " again", x.miss(p), 0);
            DUE.is("how many are LOST", x.count(2), p + 1);
        }
        x.receive(1);
        DUE.is("it stays LOST when it was received", x.miss(3), 0);
    }

    private static void receive() {
        DUE.promise(26, "receive");
        WaveBuoys x = with(0, 20);
        DUE.is("nothing was SENT", x.receive(1), WaveBuoys.NO);
        x.send(0);
        DUE.is("SHEET below", x.receive(-1), WaveBuoys.BAD);
        DUE.is("SHEET above", x.receive(8), WaveBuoys.BAD);
        DUE.is("LOST ones", x.receive(1), x.about(0, 4));
        dueAlike("all came", x);
        x.sheet(1, 2, 64);
        DUE.is("it can be again", x.receive(1), x.about(0, 4));
        dueAlike("on another SORT", x);
        DUE.is("on itself", x.receive(0), x.about(1, 4));
        dueAlike("on itself", x);
        x.sheet(2, 1, 0);
        DUE.is("none", x.send(2), 0);
        DUE.is("none LOST", x.receive(1), 0);
        DUE.is("no SAMPLES", x.about(1, 1), 0);
        DUE.is("there", x.count(0), 3);
    }

    private static void mended() {
        for (int n = 1; n <= 64; n += 7) {
            WaveBuoys x = with(1, n);
            int data = (n + 7) / 8;
            for (int p = 0; p < data; p++) {
                x.send(0);
                x.miss(p);
                DUE.is("LOST with " + p + " of " + n, x.receive(1), x.about(0, 4));
                if (n < 16 || p == data - 1) {
                    dueAlike("mended " + p + " of " + n, x);
                }
            }
        }
        WaveBuoys x = with(2, 64);
        x.send(0);
        x.miss(3);
        x.miss(4);
        DUE.is("one of each four", x.receive(1), x.about(0, 4));
        dueAlike("one of each four", x);
    }

    private static void notMended() {
        WaveBuoys x = with(2, 40);
        x.send(0);
        x.miss(4);
        x.miss(6);
        x.receive(1);
        dueAlike("with its SUM", x, 32, 39);
        x.miss(5);
        x.receive(1);
        dueAlike("both SUMS", x, 32, 39);
        x = with(2, 40);
        x.send(0);
        x.miss(1);
        x.miss(2);
        x.receive(1);
        dueAlike("two of four", x, 8, 23);
        x.miss(4);
        DUE.is("three LOST", x.receive(1), countLost(x, 8, 23));
        x = with(2, 64);
        x.send(0);
        x.miss(8);
        x.miss(7);
        x.miss(0);
        x.receive(1);
        dueAlike("the first SUM is of the first four", x, 0, 7);
    }

    private static int countLost(WaveBuoys x, int from, int to) {
        int lost = 0;
        int n = x.about(0, 1);
        for (int i = 0; i < n; i++) {
            lost += i >= from && i <= to || x.stands(0, i) == 0 ? 1 : 0;
        }
        return lost;
    }

    private static void rule() {
        DUE.promise(27, "rule");
        WaveBuoys x = new WaveBuoys();
        x.hear(100);
        int[][] bad = {{5, 5, 0}, {4, 5, 0}, {LEAST, GREATEST, 0}, {6, 5, -1}, {6, 5, 1001}, {6, 5, LEAST}};
        for (int[] b : bad) {
            DUE.is("rule " + b[0] + " " + b[1] + " " + b[2], x.rule(b[0], b[1], b[2]), WaveBuoys.BAD);
        }
        DUE.is("the WARNING stays", x.count(5), 1);
        DUE.is("what was heard stays", x.count(3), 1);
        DUE.is("a rule", x.rule(6, 5, 1000), 1);
        DUE.is("the WARNING is 0", x.count(5), 0);
        DUE.is("nothing was heard", x.count(3), 0);
        DUE.is("nothing changed", x.count(4), 0);
        DUE.is("ON at once", x.hear(6), 1);
        DUE.is("HOLD", x.hear(5), 1);
        DUE.is("as far as may be", x.rule(GREATEST, LEAST, 0), 1);
        DUE.is("below ON", x.hear(GREATEST - 1), 0);
        DUE.is("ON", x.hear(GREATEST), 1);
        DUE.is("above OFF", x.hear(LEAST + 1), 1);
        DUE.is("OFF", x.hear(LEAST), 0);
    }

    private static void hear() {
        DUE.promise(28, "hear");
        WaveBuoys x = new WaveBuoys();
        int[][] heard = {{50, 0}, {99, 0}, {100, 1}, {99, 1}, {51, 1}, {50, 0}, {51, 0}, {LEAST, 0}, {GREATEST, 1}, {100, 1}};
        for (int[] h : heard) {
            DUE.is("hear " + h[0], x.hear(h[0]), h[1]);
        }
        DUE.is("changes", x.count(4), 3);
        DUE.is("heard", x.count(3), 10);
    }

    private static void holds() {
        DUE.promise(28, "hear, HOLD");
        WaveBuoys x = new WaveBuoys();
        x.rule(10, 0, 1);
        int[][] heard = {{10, 1}, {0, 1}, {0, 0}, {10, 0}, {5, 0}, {10, 1}, {7, 1}, {0, 0}};
        for (int[] h : heard) {
            DUE.is("HOLD 1, hear " + h[0], x.hear(h[0]), h[1]);
        }
        x.rule(10, 0, 3);
        x.hear(10);
        x.hear(10);
        x.hear(0);
        DUE.is("the third behind the change", x.hear(0), 1);
        DUE.is("the fourth behind the change", x.hear(0), 0);
        x.rule(10, 0, 400);
        x.hear(5);
        DUE.is("HOLD holds no first change", x.hear(10), 1);
        for (int i = 0; i < 400; i++) {
            x.hear(0);
        }
        DUE.is("held 400 times", x.count(5), 1);
        DUE.is("no longer", x.hear(0), 0);
    }

    private static void anchor() {
        DUE.promise(29, "anchor");
        WaveBuoys x = new WaveBuoys();
        x.fix(7, 0);
        x.fix(9, 3);
        int far = 1000001;
        int[][] bad = {{far, 0, 0, 1}, {-far, 0, 0, 1}, {0, far, 0, 1}, {0, -far, 0, 1}, {LEAST, 0, 0, 1}, {0, LEAST, 0, 1},
            {0, 0, -1, 1}, {0, 0, far, 1}, {0, 0, 0, 0}, {0, 0, 0, 101}, {0, 0, 0, LEAST}};
        for (int[] b : bad) {
            DUE.is("anchor " + b[0] + " " + b[1] + " " + b[2] + " " + b[3], x.anchor(b[0], b[1], b[2], b[3]), WaveBuoys.BAD);
        }
        DUE.is("places stay", x.count(6), 2);
        DUE.is("OUT stays", x.count(7), 2);
        DUE.is("an anchor", x.anchor(-1000000, 1000000, 1000000, 100), 1);
        for (int what = 6; what < 10; what++) {
            DUE.is("no place was told: count " + what, x.count(what), 0);
        }
        DUE.is("no farther than r", x.fix(0, 1000000), 0);
        DUE.is("farther", x.fix(0, 999999), 1);
        DUE.is("far away", x.fix(1000000, -1000000), 1);
        DUE.is("the other end", x.anchor(1000000, -1000000, 0, 1), 1);
        DUE.is("at the anchor", x.fix(1000000, -1000000), 0);
        DUE.is("ADRIFT at once", x.fix(999999, -1000000), 2);
    }

    private static void fix() {
        DUE.promise(30, "fix");
        WaveBuoys x = new WaveBuoys();
        x.anchor(3, -4, 5, 3);
        int[][] places = {{0, 0, 0}, {-1, 0, 1}, {0, 1, 1}, {0, 0, 0}, {9, -4, 1}, {3, -10, 1}, {8, -5, 2}, {8, -4, 0}, {7, 0, 1}};
        for (int[] p : places) {
            DUE.is("fix " + p[0] + " " + p[1], x.fix(p[0], p[1]), p[2]);
        }
        DUE.is("OUT now", x.count(7), 1);
        int far = 1000001;
        int[][] bad = {{far, 0}, {-far, 0}, {0, far}, {0, -far}, {LEAST, 0}, {0, LEAST}, {GREATEST, GREATEST}};
        for (int[] b : bad) {
            DUE.is("fix " + b[0] + " " + b[1], x.fix(b[0], b[1]), WaveBuoys.BAD);
        }
        DUE.is("OUT stays", x.count(7), 1);
        DUE.is("places", x.count(6), 9);
        x.anchor(0, 0, 0, 100);
        for (int i = 0; i < 99; i++) {
            DUE.is("OUT " + i, x.fix(1, 1), 1);
        }
        DUE.is("ADRIFT", x.fix(1, 1), 2);
        DUE.is("ADRIFT still", x.fix(1, 1), 2);
    }

    private static void count() {
        DUE.promise(31, "count");
        WaveBuoys x = with(1, 24);
        x.sheet(7, 0, 0);
        x.sheet(3, 0, 5);
        x.drop(3);
        x.send(0);
        x.miss(1);
        x.hear(200);
        x.hear(0);
        x.hear(200);
        x.hear(70);
        x.fix(-5, 20);
        x.fix(0, 0);
        x.fix(-2, 30);
        x.fix(8, 25);
        int[] due = {2, 4, 1, 4, 3, 1, 4, 2, 13, 30};
        for (int what = 0; what < 10; what++) {
            DUE.is("count " + what, x.count(what), due[what]);
        }
        x.anchor(0, 0, 0, 1);
        x.fix(-7, 11);
        DUE.is("x of one place", x.count(8), 0);
        DUE.is("y of one place", x.count(9), 0);
        x.fix(-6, 9);
        DUE.is("x of two places", x.count(8), 1);
        DUE.is("y of two places", x.count(9), 2);
        x.fix(1000000, -1000000);
        x.fix(-1000000, 1000000);
        DUE.is("x as wide as may be", x.count(8), 2000000);
        DUE.is("y as wide as may be", x.count(9), 2000000);
        DUE.is("below", x.count(-1), WaveBuoys.BAD);
        DUE.is("above", x.count(10), WaveBuoys.BAD);
        DUE.is("least", x.count(LEAST), WaveBuoys.BAD);
    }

    private static void digest() {
        DUE.promise(32, "digest");
        WaveBuoys x = new WaveBuoys();
        DUE.is("a new object", x.digest(), digestOf(x));
        x = with(2, 20);
        x.put(0, 0, LEAST);
        x.sheet(7, 0, 0);
        x.sheet(4, 1, 3);
        x.raise(4, 5);
        x.put(4, 1, -9);
        x.raise(4, 2);
        x.send(0);
        x.miss(1);
        x.hear(150);
        x.fix(4, 5);
        x.fix(-4, 7);
        DUE.is("all kinds", x.digest(), digestOf(x));
        DUE.is("it changes nothing", x.digest(), digestOf(x));
        long h = 139;
        for (int v = 0; v < 16; v++) {
            h *= 31;
        }
        DUE.is("139 and 16 times 0", new WaveBuoys().digest(), h);
    }

    private static long digestOf(WaveBuoys x) {
        long h = 139;
        for (int what = 0; what < 10; what++) {
            h = 31 * h + x.count(what);
        }
        for (int k = 0; k < 8; k++) {
            if (x.about(k, 1) >= 0) {
                h = 31 * h + k;
                for (int what = 0; what < 6; what++) {
                    h = 31 * h + x.about(k, what);
                }
                for (int i = 0; i < x.about(k, 1); i++) {
                    h = 31 * h + x.stands(k, i);
                    h = x.stands(k, i) == 0 ? h : 31 * h + x.get(k, i);
                }
            }
        }
        for (int row = 0; row < 6; row++) {
            int many = 0;
            while (x.number(row, many) >= -4000000000000000L) {
                many++;
            }
            h = 31 * h + many;
            for (int i = 0; i < many; i++) {
                h = 31 * h + x.number(row, i);
            }
        }
        return h;
    }
}
