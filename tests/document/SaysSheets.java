/** Promises 1 to 11, sentence by sentence. */
final class SaysSheets extends Says {
    static void all() {
        promise01ANewObject();
        promise02Sheet();
        promise03Drop();
        promise04Put();
        promise05Get();
        promise06Lose();
        promise07Stands();
        promise08Copy();
        promise09Spikes();
        promise10Fill();
        promise11About();
    }

    private static void promise01ANewObject() {
        DUE.promise(1, "A new object");
        reads("## Promise 1: A new object");
        says("`WaveBuoys()`:", () -> DUE.is("makers", WaveBuoys.class.getConstructors().length, 1));
        says("All SHEETS are missing,", () -> {
            WaveBuoys x = new WaveBuoys();
            eachCall(NOTHING, x, 0, 1, 2, 3, 4, 5, 6, 7);
            DUE.is("SHEETS that are there", x.count(0), 0);
        });
        says("ROWS empty;", () -> {
            WaveBuoys x = new WaveBuoys();
            each("turn", 0, row -> x.turn(row, 0), 0, 1, 2, 3, 4, 5);
            each("number", FAILED + PLACE, row -> x.number(row, 0), 0, 1, 2, 3, 4, 5);
        });
        says("nothing SENT;", () -> {
            WaveBuoys x = new WaveBuoys();
            DUE.is("receive", x.receive(0), NO);
            DUE.is("miss", x.miss(0), BAD);
            DUE.is("PACKS", x.count(1), 0);
        });
        says("ON 100,", () -> {
            WaveBuoys x = new WaveBuoys();
            DUE.is("hear 99", x.hear(99), 0);
            DUE.is("hear 100", x.hear(100), 1);
        });
        says("OFF 50,", () -> {
            WaveBuoys x = new WaveBuoys();
            x.hear(100);
            DUE.is("hear 51", x.hear(51), 1);
            DUE.is("hear 50", x.hear(50), 0);
        });
        says("HOLD 0;", () -> {
            WaveBuoys x = new WaveBuoys();
            DUE.is("hear 100", x.hear(100), 1);
            DUE.is("hear 0 at once", x.hear(0), 0);
        });
        says("anchor 0, 0,", () -> DUE.is("fix", new WaveBuoys().fix(0, 0), 0));
        says("r 0,", () -> {
            DUE.is("fix beside it", new WaveBuoys().fix(1, 0), 2);
            DUE.is("fix beside it", new WaveBuoys().fix(0, -1), 2);
        });
        says("m 1.", () -> DUE.is("the first place OUT", new WaveBuoys().fix(5, 5), 2));
    }

    private static void promise02Sheet() {
        promise(2, "sheet", "int sheet(int k, int sort, int n)");
        says("A SHEET becomes one of n SAMPLES: 1.", () -> {
            WaveBuoys x = new WaveBuoys();
            DUE.is("sheet", x.sheet(3, 1, 2), 1);
            words("made", x, 3, "0 0");
            DUE.is("its SORT", x.about(3, 0), 1);
            Made.sheet(x, 3, 1, "7 - f7");
            DUE.is("sheet again", x.sheet(3, 0, 4), 1);
            words("made again", x, 3, "0 0 0 0");
            DUE.is("its SORT", x.about(3, 0), 0);
        });
        says("BAD: also n above 64;", () -> {
            WaveBuoys x = new WaveBuoys();
            each("sheet", BAD, k -> x.sheet(k, 0, 1), NO_SHEETS);
            each("sheet of SORT", BAD, sort -> x.sheet(0, sort, 1), -1, 3, LEAST, GREATEST);
            each("sheet of", BAD, n -> x.sheet(0, 0, n), 65, GREATEST);
            words("refused", x, 0, "missing");
            DUE.is("sheet of 64", x.sheet(0, 0, 64), 1);
        });
        says("SIZE.", () -> {
            WaveBuoys x = Made.sheet(0, "7");
            each("sheet of", SIZE, n -> x.sheet(0, 0, n), -1, LEAST);
            words("refused", x, 0, "7");
        });
    }

    private static void promise03Drop() {
        promise(3, "drop", "int drop(int k)");
        says("It is missing then:", () -> {
            WaveBuoys x = Made.sheet(0, "1 2 3");
            Made.sheet(x, 1, 0, "4");
            x.drop(0);
            DUE.is("about", x.about(0, 1), NOTHING);
            DUE.is("drop again", x.drop(0), NOTHING);
            words("another", x, 1, "4");
        });
        says("how many SAMPLES it had.", () -> {
            DUE.is("drop", Made.sheet(0, "1 - f3").drop(0), 3);
            DUE.is("drop of none", Made.sheet(0, "").drop(0), 0);
            DUE.is("drop of 64", Made.sheet(2, Made.times(64, "5")).drop(0), 64);
        });
        says("BAD,", () -> each("drop", BAD, k -> new WaveBuoys().drop(k), NO_SHEETS));
        says("NOTHING.", () -> each("drop", NOTHING, k -> Made.sheet(0, "1").drop(k), 1, 7));
    }

    private static void promise04Put() {
        promise(4, "put", "int put(int k, int i, int v)");
        says("A SAMPLE is told: 1.", () -> {
            WaveBuoys x = Made.sheet(0, "1 - f3 4");
            each("put", 1, i -> x.put(0, i, 10 * i - 5), 0, 1, 2);
            words("put", x, 0, "-5 5 15 4");
        });
        says("BAD,", () -> each("put", BAD, k -> new WaveBuoys().put(k, 0, 0), NO_SHEETS));
        says("NOTHING,", () -> each("put", NOTHING, k -> Made.sheet(0, "1").put(k, 0, 0), 1, 7));
        says("PLACE,", () -> {
            WaveBuoys x = Made.sheet(0, "1 2 3");
            each("put", PLACE, i -> x.put(0, i, 9), NO_PLACES_OF_THREE);
            words("refused", x, 0, "1 2 3");
            DUE.is("put of none", Made.sheet(0, "").put(0, 0, 0), PLACE);
        });
        says("WIDE.", () -> {
            for (int sort = 0; sort < 3; sort++) {
                WaveBuoys x = Made.sheet(sort, "- 7");
                each("put to SORT " + sort, sort == 2 ? 1 : WIDE, v -> x.put(0, 0, v), LEAST, GREATEST, -32769, 32768);
                each("put to SORT " + sort, sort == 0 ? WIDE : 1, v -> x.put(0, 1, v), -32768, 32767, -129, 128);
                each("put to SORT " + sort, 1, v -> x.put(0, 1, v), -128, 127);
                words("put to SORT " + sort, x, 0, sort == 2 ? "32768 127" : "- 127");
            }
        });
    }

    private static void promise05Get() {
        promise(5, "get", "long get(int k, int i)");
        says("Its number.", () -> {
            WaveBuoys x = Made.sheet(2, LEAST + " f3 " + GREATEST);
            DUE.is("get", x.get(0, 0), LEAST);
            DUE.is("get of a FILLED one", x.get(0, 1), 3);
            DUE.is("get", x.get(0, 2), GREATEST);
        });
        says("Failures as a long:", () -> DUE.is("get", new WaveBuoys().get(-1, 0), -5000000000000000002L));
        says("BAD,", () -> each("get", FAILED + BAD, k -> new WaveBuoys().get(k, 0), NO_SHEETS));
        says("NOTHING,", () -> each("get", FAILED + NOTHING, k -> Made.sheet(0, "1").get(k, 0), 1, 7));
        says("PLACE,", () -> each("get", FAILED + PLACE, i -> Made.sheet(0, "1 2 3").get(0, i), NO_PLACES_OF_THREE));
        says("LOST.", () -> each("get", FAILED + LOST, i -> Made.sheet(0, "- 2 -").get(0, i), 0, 2));
    }

    private static void promise06Lose() {
        promise(6, "lose", "int lose(int k, int i)");
        says("A SAMPLE is LOST: 1;", () -> {
            WaveBuoys x = Made.sheet(0, "1 2 f3 4");
            each("lose", 1, i -> x.lose(0, i), 1, 2);
            words("lost", x, 0, "1 - - 4");
        });
        says("0: it was.", () -> {
            WaveBuoys x = Made.sheet(0, "1 - 3");
            DUE.is("lose", x.lose(0, 1), 0);
            words("lost", x, 0, "1 - 3");
        });
        says("BAD,", () -> each("lose", BAD, k -> new WaveBuoys().lose(k, 0), NO_SHEETS));
        says("NOTHING,", () -> each("lose", NOTHING, k -> Made.sheet(0, "1").lose(k, 0), 1, 7));
        says("PLACE.", () -> each("lose", PLACE, i -> Made.sheet(0, "1 2 3").lose(0, i), NO_PLACES_OF_THREE));
    }

    private static void promise07Stands() {
        promise(7, "stands", "int stands(int k, int i)");
        says("How it stands: 0 LOST,", () -> DUE.is("stands", Made.sheet(0, "1 - f3").stands(0, 1), 0));
        says("1 told,", () -> DUE.is("stands", Made.sheet(0, "1 - f3").stands(0, 0), 1));
        says("2 FILLED.", () -> DUE.is("stands", Made.sheet(0, "1 - f3").stands(0, 2), 2));
        says("BAD,", () -> each("stands", BAD, k -> new WaveBuoys().stands(k, 0), NO_SHEETS));
        says("NOTHING,", () -> each("stands", NOTHING, k -> Made.sheet(0, "1").stands(k, 0), 1, 7));
        says("PLACE.", () -> each("stands", PLACE, i -> Made.sheet(0, "1 2 3").stands(0, i), NO_PLACES_OF_THREE));
    }

    /** A copy on SHEET 0 itself. */
    private static void copied(String from, int a, int b, int n, String becomes) {
        WaveBuoys x = Made.sheet(0, from);
        DUE.is("copy(0, " + a + ", 0, " + b + ", " + n + ") of " + from, x.copy(0, a, 0, b, n), n);
        words("copied", x, 0, becomes);
    }

    private static void promise08Copy() {
        promise(8, "copy", "int copy(int from, int a, int to, int b, int n)");
        says("n SAMPLES from place a on come to places b on of a SHEET", () -> {
            WaveBuoys x = Made.sheet(0, "1 2 3 4");
            Made.sheet(x, 5, 0, "11 12 13 14 15");
            DUE.is("copy", x.copy(0, 1, 5, 2, 2), 2);
            words("copied from", x, 0, "1 2 3 4");
            words("copied to", x, 5, "11 12 2 3 15");
        });
        says("(perhaps the same),", () -> {
            copied("1 2 3 4 5", 0, 3, 2, "1 2 3 1 2");
            copied("1 2 3", 0, 0, 3, "1 2 3");
        });
        says("as they stand", () -> {
            WaveBuoys x = Made.sheet(0, "- f2 3");
            Made.sheet(x, 1, 0, "7 7 f7 7");
            x.copy(0, 0, 1, 1, 3);
            words("copied", x, 1, "7 - f2 3");
        });
        says("(as they were ahead of the call):", () -> {
            copied("1 - f3 4 5", 0, 1, 4, "1 1 - f3 4");
            copied("1 - f3 4 5", 1, 0, 4, "- f3 4 5 5");
        });
        says("n.", () -> {
            WaveBuoys x = Made.sheet(0, Made.times(64, "5"));
            each("copy of", 64, n -> x.copy(0, 0, 0, 0, n), 64);
            each("copy of", 1, n -> x.copy(0, 63, 0, 0, n), 1);
            each("copy of", 0, n -> x.copy(0, 64, 0, 64, n), 0);
        });
        says("BAD,", () -> {
            each("copy from", BAD, k -> Made.sheet(0, "1").copy(k, 0, 0, 0, 1), NO_SHEETS);
            each("copy to", BAD, k -> Made.sheet(0, "1").copy(0, 0, k, 0, 1), NO_SHEETS);
        });
        says("NOTHING,", () -> {
            each("copy from", NOTHING, k -> Made.sheet(0, "1").copy(k, 0, 0, 0, 1), 1, 7);
            each("copy to", NOTHING, k -> Made.sheet(0, "1").copy(0, 0, k, 0, 1), 1, 7);
        });
        says("UNLIKE,", () -> {
            WaveBuoys x = Made.sheet(0, "1");
            Made.sheet(x, 1, 2, "2");
            DUE.is("copy", x.copy(0, 0, 1, 0, 1), UNLIKE);
            DUE.is("copy of none", x.copy(1, 0, 0, 0, 0), UNLIKE);
            words("refused", x, 1, "2");
        });
        says("SIZE,", () -> each("copy of", SIZE, n -> Made.sheet(0, "1").copy(0, 0, 0, 0, n), -1, LEAST));
        says("PLACE", () -> {
            WaveBuoys x = Made.sheet(0, "1 2 3");
            Made.sheet(x, 1, 0, "4 5");
            DUE.is("one too many to have", x.copy(1, 1, 0, 0, 2), PLACE);
            DUE.is("one too many to come", x.copy(0, 0, 1, 1, 2), PLACE);
            DUE.is("just as many", x.copy(1, 1, 0, 2, 1), 1);
            each("copy of", PLACE, n -> x.copy(0, 1, 0, 1, n), 3, 64, GREATEST);
            each("copy from", PLACE, a -> x.copy(0, a, 0, 0, 1), NO_PLACES_OF_THREE);
            each("copy to", PLACE, b -> x.copy(0, 0, 0, b, 1), NO_PLACES_OF_THREE);
            words("refused", x, 1, "4 5");
        });
        says("(with n 0, too, if a or b is above how many there are).", () -> {
            WaveBuoys x = Made.sheet(0, "1 2 3");
            each("copy of none from", 0, a -> x.copy(0, a, 0, 0, 0), 0, 2, 3);
            each("copy of none to", 0, b -> x.copy(0, 0, 0, b, 0), 0, 2, 3);
            each("copy of none from", PLACE, a -> x.copy(0, a, 0, 0, 0), 4, 64, 65, GREATEST);
            each("copy of none to", PLACE, b -> x.copy(0, 0, 0, b, 0), 4, 64, 65, GREATEST);
        });
    }

    private static void promise09Spikes() {
        promise(9, "spikes", "int spikes(int k, int d)");
        says("SPIKES by d (0 or more) are LOST:", () -> {
            spikes(0, "0 9 f0 0 5 0 0", 5, 1, "0 - f0 0 5 0 0");
            spikes(0, "0 1 0", 0, 1, "0 - 0");
            each("spikes by", BAD, d -> Made.sheet(0, "0 9 0").spikes(0, d), -1, LEAST);
        });
        says("how many.", () -> {
            spikes(0, "0 9 0 0 9 0 0 9 0", 5, 3, "0 - 0 0 - 0 0 - 0");
            spikes(0, "5 5 5 5", 0, 0, "5 5 5 5");
            spikes(0, "", 0, 0, "");
        });
        says("BAD,", () -> each("spikes", BAD, k -> new WaveBuoys().spikes(k, 0), NO_SHEETS));
        says("NOTHING.", () -> each("spikes", NOTHING, k -> Made.sheet(0, "1").spikes(k, 0), 1, 7));
    }

    private static void promise10Fill() {
        promise(10, "fill", "int fill(int k, int m)");
        says("INNER GAPS", () -> filled(0, "- 1 - 1 -", 64, 1, "- 1 f1 1 -"));
        says("of no more than m", () -> {
            filled(0, "1 - 1 - - 1 - - - 1", 2, 3, "1 f1 1 f1 f1 1 - - - 1");
            filled(0, "1 - - 1", 1, 0, "1 - - 1");
        });
        says("(0 .. 64)", () -> {
            filled(0, "1 - 1", 0, 0, "1 - 1");
            filled(0, "1 " + Made.times(62, "-") + " 1", 62, 62, "1 " + Made.times(62, "f1") + " 1");
            filled(0, "1 " + Made.times(62, "-") + " 1", 64, 62, "1 " + Made.times(62, "f1") + " 1");
            each("fill to", BAD, m -> Made.sheet(0, "1 - 1").fill(0, m), -1, 65, LEAST, GREATEST);
        });
        says("are FILLED STRAIGHT:", () -> {
            filled(0, "0 - - - 9 - f-3", 64, 4, "0 f2 f4 f6 9 f3 f-3");
            filled(0, "f2 - 4 f7 f9", 64, 1, "f2 f3 4 f7 f9");
        });
        says("how many SAMPLES.", () -> {
            filled(0, "1 - 1 - - 1", 64, 3, "1 f1 1 f1 f1 1");
            filled(0, "1 f1 1", 64, 0, "1 f1 1");
            filled(0, "", 64, 0, "");
        });
        says("BAD,", () -> each("fill", BAD, k -> new WaveBuoys().fill(k, 0), NO_SHEETS));
        says("NOTHING.", () -> each("fill", NOTHING, k -> Made.sheet(0, "1").fill(k, 0), 1, 7));
    }

    private static void promise11About() {
        promise(11, "about", "int about(int k, int what)");
        String words = "- f1 - - - 2 f3 - - f5 6";
        says("Of a SHEET: 0 SORT,", () -> each("about of SORT 2", 2, what -> Made.sheet(2, words).about(0, what), 0));
        says("1 SAMPLES,", () -> each("about", 11, what -> Made.sheet(2, words).about(0, what), 1));
        says("2 GAPS,", () -> {
            each("about", 3, what -> Made.sheet(2, words).about(0, what), 2);
            each("about all LOST", 1, what -> Made.sheet(2, "- - -").about(0, what), 2);
            each("about none LOST", 0, what -> Made.sheet(2, "1 2").about(0, what), 2);
        });
        says("3 the longest,", () -> {
            each("about", 3, what -> Made.sheet(2, words).about(0, what), 3);
            each("about all LOST", 4, what -> Made.sheet(2, "- - - -").about(0, what), 3);
            each("about the last", 2, what -> Made.sheet(2, "- 1 - -").about(0, what), 3);
            each("about none LOST", 0, what -> Made.sheet(2, "1 2").about(0, what), 3);
        });
        says("4 LOST SAMPLES,", () -> each("about", 6, what -> Made.sheet(2, words).about(0, what), 4));
        says("5 FILLED ones.", () -> each("about", 3, what -> Made.sheet(2, words).about(0, what), 5));
        says("BAD,", () -> {
            each("about", BAD, k -> new WaveBuoys().about(k, 0), NO_SHEETS);
            each("about, what", BAD, what -> Made.sheet(0, "1").about(0, what), -1, 6, LEAST, GREATEST);
        });
        says("NOTHING.", () -> each("about", NOTHING, k -> Made.sheet(0, "1").about(k, 0), 1, 7));
    }
}
