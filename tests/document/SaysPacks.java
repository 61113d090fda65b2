/** Promises 24 to 32, sentence by sentence. */
final class SaysPacks extends Says {
    static void all() {
        promise24Send();
        promise25Miss();
        promise26Receive();
        promise27Rule();
        promise28Hear();
        promise29Anchor();
        promise30Fix();
        promise31Count();
        promise32Digest();
    }

    private static void promise24Send() {
        promise(24, "send", "int send(int k)");
        says("A SHEET is SENT", () -> {
            WaveBuoys x = Made.sheet(1, "1 - f300");
            x.send(0);
            words("sent, it stays", x, 0, "1 - f300");
            x.put(0, 0, 9);
            x.drop(0);
            x.receive(4);
            words("received, as it was SENT", x, 4, "1 - f300");
            DUE.is("its SORT", x.about(4, 0), 1);
        });
        says("(what was goes):", () -> {
            WaveBuoys x = Made.sheet(0, "1 2 3 4 5 6 7 8 9");
            Made.sheet(x, 1, 2, "7");
            x.send(0);
            x.miss(0);
            x.miss(2);
            DUE.is("send another", x.send(1), 2);
            DUE.is("PACKS SENT", x.count(1), 2);
            DUE.is("of these LOST", x.count(2), 0);
            DUE.is("miss of what was", x.miss(2), BAD);
            x.receive(3);
            words("received", x, 3, "7");
        });
        says("how many PACKS, with SUMS.", () -> {
            DUE.is("send of none", Made.sheet(0, "").send(0), 0);
            DUE.is("send of 20", Made.sheet(0, mixedWords(20)).send(0), 4);
            DUE.is("send of 50", Made.sheet(0, mixedWords(50)).send(0), 9);
        });
        says("BAD,", () -> each("send", BAD, k -> new WaveBuoys().send(k), NO_SHEETS));
        says("NOTHING.", () -> {
            WaveBuoys x = Made.sheet(0, "1");
            x.send(0);
            each("send", NOTHING, k -> x.send(k), 1, 7);
            DUE.is("what was SENT stays", x.count(1), 2);
        });
    }

    private static void promise25Miss() {
        promise(25, "miss", "int miss(int p)");
        says("PACK p is LOST on its way: 1;", () -> {
            WaveBuoys x = Made.sheet(0, Made.times(16, "5"));
            x.send(0);
            each("miss", 1, p -> x.miss(p), 1, 2);
            DUE.is("LOST", x.count(2), 2);
            x.receive(1);
            words("received", x, 1, without(Made.times(16, "5"), 8, 16));
        });
        says("0: it was.", () -> {
            WaveBuoys x = Made.sheet(0, "5");
            x.send(0);
            x.miss(1);
            each("miss again", 0, p -> x.miss(p), 1, 1);
            DUE.is("LOST", x.count(2), 1);
        });
        says("BAD: there is no such.", () -> {
            WaveBuoys x = Made.sheet(0, Made.times(64, "5"));
            each("miss, nothing SENT", BAD, p -> x.miss(p), 0, 9);
            x.send(0);
            each("miss", BAD, p -> x.miss(p), -1, 10, LEAST, GREATEST);
            DUE.is("miss of the last", x.miss(9), 1);
            x.sheet(1, 0, 0);
            x.send(1);
            DUE.is("miss of none", x.miss(0), BAD);
        });
    }

    private static void promise26Receive() {
        promise(26, "receive", "int receive(int k)");
        says("A SHEET becomes what is RECEIVED", () -> {
            WaveBuoys x = Made.sheet(2, "- f-2 " + GREATEST);
            Made.sheet(x, 1, 0, "1 2 3 4 5");
            x.send(0);
            x.receive(1);
            words("one that was there", x, 1, "- f-2 " + GREATEST);
            DUE.is("its SORT", x.about(1, 0), 2);
            x.receive(2);
            words("one that was missing", x, 2, "- f-2 " + GREATEST);
            x.miss(0);
            x.miss(1);
            x.receive(0);
            words("the one that was SENT", x, 0, "- - -");
        });
        says("(it can be again):", () -> {
            WaveBuoys x = Made.sheet(0, "1 2 3");
            x.send(0);
            each("receive", 0, k -> x.receive(k), 5, 5, 6);
            words("again", x, 6, "1 2 3");
            x.miss(0);
            x.miss(1);
            each("receive, LOST since", 3, k -> x.receive(k), 5, 0);
        });
        says("how many SAMPLES are LOST.", () -> {
            WaveBuoys x = Made.sheet(0, "1 - 3 4 5 6 7 8 9 -");
            x.send(0);
            DUE.is("those that were", x.receive(1), 2);
            x.miss(0);
            DUE.is("those of one that is mended", x.receive(1), 2);
            x.miss(2);
            DUE.is("those of one that is not", x.receive(1), 9);
            x.miss(1);
            DUE.is("all", x.receive(1), 10);
        });
        says("BAD;", () -> {
            WaveBuoys x = Made.sheet(0, "1");
            each("receive, NO too", BAD, k -> x.receive(k), NO_SHEETS);
            x.send(0);
            each("receive", BAD, k -> x.receive(k), NO_SHEETS);
        });
        says("NO: nothing was SENT.", () -> {
            WaveBuoys x = Made.sheet(0, "1");
            each("receive", NO, k -> x.receive(k), 0, 1, 7);
            words("refused", x, 0, "1");
            x.sheet(1, 0, 0);
            x.send(1);
            DUE.is("receive what has no SAMPLES", x.receive(0), 0);
            words("received", x, 0, "");
        });
    }

    private static void promise27Rule() {
        promise(27, "rule", "int rule(int on, int off, int hold)");
        says("ON, OFF (ON above OFF),", () -> {
            DUE.is("ON just above", new WaveBuoys().rule(6, 5, 0), 1);
            DUE.is("ON is OFF", new WaveBuoys().rule(5, 5, 0), BAD);
            DUE.is("ON below", new WaveBuoys().rule(4, 5, 0), BAD);
            DUE.is("farthest", new WaveBuoys().rule(GREATEST, LEAST, 0), 1);
            DUE.is("farthest below", new WaveBuoys().rule(LEAST, GREATEST, 0), BAD);
            WaveBuoys x = ruled(6, 5, 0);
            each("ON", 1, x::hear, 6);
            each("OFF", 0, x::hear, 5);
        });
        says("HOLD (0 .. 1000):", () -> {
            each("rule with HOLD", 1, hold -> new WaveBuoys().rule(6, 5, hold), 0, 1, 1000);
            each("rule with HOLD", BAD, hold -> new WaveBuoys().rule(6, 5, hold), -1, 1001, LEAST, GREATEST);
            WaveBuoys x = ruled(6, 5, 1);
            each("hear", 1, x::hear, 6, 5);
            each("hear", 0, x::hear, 5);
            x.rule(3, 2, 0);
            each("hear, ruled anew", 1, x::hear, 3);
            each("hear, ruled anew", 0, x::hear, 2);
        });
        says("1;", () -> DUE.is("rule", new WaveBuoys().rule(-5, -6, 7), 1));
        says("the WARNING is 0 then,", () -> {
            WaveBuoys x = ruled(10, 5, 0);
            x.hear(10);
            x.rule(10, 5, 0);
            DUE.is("the WARNING", x.count(5), 0);
            DUE.is("hear between", x.hear(7), 0);
        });
        says("nothing was heard.", () -> {
            WaveBuoys x = ruled(10, 5, 9);
            x.hear(10);
            x.rule(10, 5, 9);
            DUE.is("values heard", x.count(3), 0);
            DUE.is("changes", x.count(4), 0);
            DUE.is("hear, no change just ahead", x.hear(10), 1);
            DUE.is("values heard", x.count(3), 1);
        });
        says("BAD.", () -> {
            WaveBuoys x = ruled(10, 5, 9);
            x.hear(10);
            DUE.is("ON is OFF", x.rule(3, 3, 0), BAD);
            DUE.is("HOLD", x.rule(3, 2, 1001), BAD);
            DUE.is("the WARNING stays", x.count(5), 1);
            DUE.is("and HOLD", x.hear(0), 1);
            DUE.is("values heard", x.count(3), 2);
        });
    }

    private static void promise28Hear() {
        promise(28, "hear", "int hear(int v)");
        says("A value is heard: the WARNING.", () -> {
            WaveBuoys x = ruled(10, 5, 0);
            int[] values = {9, 10, 7, GREATEST, 5, 9, 12, LEAST};
            int[] warnings = {0, 1, 1, 1, 0, 0, 1, 0};
            for (int i = 0; i < values.length; i++) {
                DUE.is("hear " + values[i], x.hear(values[i]), warnings[i]);
                DUE.is("the WARNING", x.count(5), warnings[i]);
                DUE.is("values heard", x.count(3), i + 1);
            }
            DUE.is("changes", x.count(4), 4);
        });
    }

    private static void promise29Anchor() {
        promise(29, "anchor", "int anchor(int x, int y, int r, int m)");
        says("An anchor, r 0 .. 1000000,", () -> {
            each("anchor with r", 1, r -> new WaveBuoys().anchor(5, -5, r, 1), 0, 1, 1000000);
            each("anchor with r", BAD, r -> new WaveBuoys().anchor(5, -5, r, 1), -1, 1000001, LEAST, GREATEST);
            WaveBuoys x = moored(5, -5, 2, 1);
            DUE.is("within r", x.fix(7, -5), 0);
            DUE.is("beyond r", x.fix(8, -5), 2);
            x.anchor(-5, 5, 1, 2);
            DUE.is("within the new r", x.fix(-6, 5), 0);
            DUE.is("beyond the new r", x.fix(-7, 5), 1);
            x.anchor(-5, 5, 1, 1);
            DUE.is("beyond it, with the new m", x.fix(-7, 5), 2);
        });
        says("m 1 .. 100;", () -> {
            each("anchor with m", 1, m -> new WaveBuoys().anchor(0, 0, 0, m), 1, 2, 100);
            each("anchor with m", BAD, m -> new WaveBuoys().anchor(0, 0, 0, m), 0, -1, 101, LEAST, GREATEST);
            WaveBuoys x = moored(0, 0, 0, 100);
            for (int place = 1; place <= 101; place++) {
                DUE.is("OUT " + place, x.fix(1, 1), place < 100 ? 1 : 2);
            }
        });
        says("no place was told:", () -> {
            WaveBuoys x = moored(0, 0, 0, 3);
            each("fix", 1, y -> x.fix(9, y), -4, 4);
            x.anchor(0, 0, 0, 3);
            for (int what = 6; what < 10; what++) {
                DUE.is("count " + what, x.count(what), 0);
            }
            DUE.is("OUT, the first", x.fix(1, 1), 1);
            DUE.is("places told", x.count(6), 1);
            DUE.is("greatest x less the least", x.count(8), 0);
        });
        says("1.", () -> DUE.is("anchor", new WaveBuoys().anchor(-1000000, 1000000, 1000000, 100), 1));
        says("BAD: also x, y above 1000000 in size.", () -> {
            each("anchor at x", BAD, v -> new WaveBuoys().anchor(v, 0, 0, 1), 1000001, -1000001, LEAST, GREATEST);
            each("anchor at y", BAD, v -> new WaveBuoys().anchor(0, v, 0, 1), 1000001, -1000001, LEAST, GREATEST);
            each("anchor at", 1, v -> new WaveBuoys().anchor(v, -v, 0, 1), 1000000, -1000000);
            WaveBuoys x = moored(5, 5, 0, 2);
            x.fix(6, 6);
            x.anchor(6, 1000001, 3, 1);
            DUE.is("refused: places told", x.count(6), 1);
            DUE.is("refused: the anchor stays", x.fix(5, 5), 0);
        });
    }

    private static void promise30Fix() {
        promise(30, "fix", "int fix(int x, int y)");
        says("A place is told: 0 not OUT,", () -> {
            WaveBuoys x = moored(0, 0, 5, 2);
            DUE.is("fix", x.fix(-3, -4), 0);
            DUE.is("places told", x.count(6), 1);
        });
        says("1 OUT,", () -> DUE.is("fix", moored(0, 0, 5, 2).fix(-3, -5), 1));
        says("2 ADRIFT.", () -> {
            WaveBuoys x = moored(0, 0, 5, 2);
            x.fix(6, 0);
            each("fix", 2, y -> x.fix(6, y), 0, 1, 2);
        });
        says("BAD: x, y above 1000000 in size.", () -> {
            WaveBuoys x = moored(0, 0, 0, 2);
            x.fix(1, 1);
            each("fix at x", BAD, v -> x.fix(v, 0), 1000001, -1000001, LEAST, GREATEST);
            each("fix at y", BAD, v -> x.fix(0, v), 1000001, -1000001, LEAST, GREATEST);
            DUE.is("places told", x.count(6), 1);
            DUE.is("OUT one after another", x.count(7), 1);
            each("fix at", 2, v -> x.fix(v, -v), 1000000, -1000000);
        });
    }

    private static void promise31Count() {
        promise(31, "count", "int count(int what)");
        says("How many: 0 SHEETS that are there,", () -> {
            WaveBuoys x = Made.sheet(0, "1");
            x.sheet(7, 0, 0);
            DUE.is("of two", x.count(0), 2);
            x.drop(0);
            DUE.is("of one", x.count(0), 1);
        });
        says("1 PACKS SENT,", () -> {
            WaveBuoys x = Made.sheet(0, mixedWords(20));
            DUE.is("none", x.count(1), 0);
            x.send(0);
            x.miss(1);
            DUE.is("with the SUM, LOST ones too", x.count(1), 4);
        });
        says("2 of these LOST,", () -> {
            WaveBuoys x = Made.sheet(0, mixedWords(64));
            x.send(0);
            for (int p = 0; p < 10; p++) {
                x.miss(p);
                DUE.is("up to " + p, x.count(2), p + 1);
            }
        });
        says("3 values heard,", () -> {
            WaveBuoys x = new WaveBuoys();
            each("hear", 0, x::hear, 1, 2, 3);
            DUE.is("of three", x.count(3), 3);
        });
        says("4 changes of the WARNING,", () -> {
            WaveBuoys x = new WaveBuoys();
            int[] values = {100, 100, 75, 50, 50, 100};
            int[] changes = {1, 1, 1, 2, 2, 3};
            for (int i = 0; i < values.length; i++) {
                x.hear(values[i]);
                DUE.is("changes", x.count(4), changes[i]);
            }
        });
        says("5 the WARNING,", () -> {
            WaveBuoys x = new WaveBuoys();
            x.hear(100);
            DUE.is("the WARNING", x.count(5), 1);
            x.hear(50);
            DUE.is("the WARNING", x.count(5), 0);
        });
        says("6 places told,", () -> {
            WaveBuoys x = new WaveBuoys();
            each("fix", 0, v -> x.fix(v, 0), 0, 0, 0);
            DUE.is("places", x.count(6), 3);
        });
        says("7 OUT one after another up to now,", () -> {
            WaveBuoys x = moored(0, 0, 5, 2);
            int[] places = {9, 9, 9, 5, 0, 6, 7};
            int[] out = {1, 2, 3, 0, 0, 1, 2};
            for (int i = 0; i < places.length; i++) {
                x.fix(places[i], 0);
                DUE.is("OUT up to " + i, x.count(7), out[i]);
            }
        });
        says("8 the greatest x of places less the least,", () -> {
            eachWidth(8, 0, 5, 20, 20, 27, 27);
            WaveBuoys x = moored(100, 100, 0, 2);
            x.fix(1000000, 0);
            x.fix(-1000000, 0);
            DUE.is("the most", x.count(8), 2000000);
        });
        says("9 of y (0: none).", () -> {
            eachWidth(9, 0, 6, 31, 31, 42, 42);
            WaveBuoys x = moored(100, 100, 0, 2);
            x.fix(0, -1000000);
            x.fix(0, 1000000);
            DUE.is("the most", x.count(9), 2000000);
        });
        says("BAD.", () -> each("count", BAD, what -> Made.sheet(0, "1").count(what), -1, 10, LEAST, GREATEST));
    }

    /** 0 where no place was told, then what count(what) is behind each place of a row, of which the
     *  first is told again at the end; and the same of places turned about. */
    private static void eachWidth(int what, int... widths) {
        int[] xs = {20, 25, 5, 20, -2, 20};
        int[] ys = {-30, -36, -5, -20, 6, -30};
        WaveBuoys x = moored(100, 100, 0, 2);
        WaveBuoys turned = moored(-100, -100, 0, 2);
        DUE.is("none", x.count(what), 0);
        for (int i = 0; i < xs.length; i++) {
            x.fix(xs[i], ys[i]);
            turned.fix(-xs[i], -ys[i]);
            int due = widths[Math.min(i, widths.length - 1)];
            DUE.is("behind place " + i, x.count(what), due);
            DUE.is("behind place " + i + " turned about", turned.count(what), due);
        }
        x.anchor(0, 0, 0, 1);
        DUE.is("none since the anchor", x.count(what), 0);
    }

    /** An object of which each count is another than 0. */
    private static WaveBuoys busy() {
        WaveBuoys x = Made.sheet(1, "5 - f300 -");
        Made.sheet(x, 6, 2, LEAST + " - - f-7");
        x.sheet(2, 0, 0);
        Made.row(x, 0, 8, 0, LEAST);
        x.mix(0, 1000, 0, 1000);
        Made.row(x, 3, -6);
        x.send(0);
        x.miss(1);
        x.hear(100);
        x.hear(30);
        x.hear(101);
        x.anchor(7, 7, 1, 5);
        x.fix(3, 9);
        x.fix(-4, 17);
        return x;
    }

    private static long plus(long h, long v) {
        return 31 * h + v;
    }

    private static long ofCounts(WaveBuoys x) {
        long h = 139;
        for (int what = 0; what < 10; what++) {
            h = plus(h, x.count(what));
        }
        return h;
    }

    private static long ofSheet(WaveBuoys x, int k, long h) {
        h = plus(h, k);
        for (int what = 0; what < 6; what++) {
            h = plus(h, x.about(k, what));
        }
        for (int i = 0; i < x.about(k, 1); i++) {
            h = plus(h, x.stands(k, i));
            h = x.stands(k, i) == 0 ? h : plus(h, x.get(k, i));
        }
        return h;
    }

    private static long ofRow(long h, long... numbers) {
        h = plus(h, numbers.length);
        for (long v : numbers) {
            h = plus(h, v);
        }
        return h;
    }

    private static long ofEmptyRows(long h, int many) {
        for (int row = 0; row < many; row++) {
            h = ofRow(h);
        }
        return h;
    }

    private static void promise32Digest() {
        promise(32, "digest", "long digest()");
        says("h = 139;", () -> {
            long h = 139;
            for (int v = 0; v < 16; v++) {
                h = 31 * h;
            }
            DUE.is("digest of a new object", new WaveBuoys().digest(), h);
        });
        says("then h = 31 h + v for each v: count(0) to count(9);", () -> {
            WaveBuoys x = new WaveBuoys();
            x.hear(100);
            x.hear(50);
            x.hear(100);
            x.anchor(7, 7, 1, 5);
            x.fix(3, 9);
            x.fix(-4, 17);
            DUE.is("digest", x.digest(), ofEmptyRows(ofCounts(x), 6));
            x.sheet(0, 0, 9);
            x.send(0);
            x.miss(1);
            x.drop(0);
            DUE.is("PACKS SENT", x.count(1), 3);
            DUE.is("digest, SENT", x.digest(), ofEmptyRows(ofCounts(x), 6));
        });
        says("of SHEETS that are there number, about(.., 0) to (.., 5), of SAMPLES stands(), and number, if it is not LOST;", () -> {
            WaveBuoys x = Made.sheet(1, "5 - f300 -");
            DUE.is("digest of one", x.digest(), ofEmptyRows(ofSheet(x, 0, ofCounts(x)), 6));
            Made.sheet(x, 6, 2, LEAST + " - - f-7");
            x.sheet(2, 0, 0);
            long h = ofSheet(x, 6, ofSheet(x, 2, ofSheet(x, 0, ofCounts(x))));
            DUE.is("digest of three", x.digest(), ofEmptyRows(h, 6));
            x.drop(0);
            DUE.is("digest of two", x.digest(), ofEmptyRows(ofSheet(x, 6, ofSheet(x, 2, ofCounts(x))), 6));
        });
        says("of ROWS how many, numbers.", () -> {
            WaveBuoys x = rows(of(8, 0, LEAST), of(-6));
            x.mix(0, 1000, 0, 1000);
            DUE.is("digest of two", x.digest(), ofEmptyRows(ofRow(ofRow(ofCounts(x), 16000, 0, 2000L * LEAST), -6), 4));
            WaveBuoys y = new WaveBuoys();
            Made.row(y, 5, Made.all(64, -9));
            DUE.is("digest of the last", y.digest(), ofRow(ofEmptyRows(ofCounts(y), 5), Made.all(64, -9)));
            WaveBuoys z = busy();
            long h = ofSheet(z, 6, ofSheet(z, 2, ofSheet(z, 0, ofCounts(z))));
            h = ofEmptyRows(ofRow(ofEmptyRows(ofRow(h, 16000, 0, 2000L * LEAST), 2), -6), 2);
            DUE.is("digest of all", z.digest(), h);
            DUE.is("digest again", z.digest(), h);
        });
    }
}
