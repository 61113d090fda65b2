/** The document's terms, and the promises in which they are used. */
final class SaysTerms extends Says {
    static void all() {
        termsOfSheets();
        termsOfCallsOnSheets();
        termsOfSpikesAndGaps();
        termsOfRows();
        termsOfTurns();
        termsOfForceAndCross();
        termsOfWaves();
        termsOfPacks();
        termsOfReceived();
        termsOfWarningAndMooring();
    }

    private static void termsOfSheets() {
        DUE.promise(2, "sheet, terms");
        reads("## Terms ======== 1");
        says("SHEETS 0 .. 7", () -> {
            WaveBuoys x = new WaveBuoys();
            each("sheet", 1, k -> x.sheet(k, 0, 1), 0, 1, 2, 3, 4, 5, 6, 7);
            DUE.is("SHEETS that are there", x.count(0), 8);
            each("sheet", BAD, k -> x.sheet(k, 0, 1), NO_SHEETS);
        });
        says("are missing (at first),", () -> {
            WaveBuoys x = new WaveBuoys();
            each("about", NOTHING, k -> x.about(k, 1), 0, 1, 2, 3, 4, 5, 6, 7);
            DUE.is("SHEETS that are there", x.count(0), 0);
        });
        says("or of a SORT (0 bytes, 1 shorts, 2 ints)", () -> {
            WaveBuoys x = new WaveBuoys();
            for (int sort = 0; sort < 3; sort++) {
                DUE.is("sheet of SORT " + sort, x.sheet(sort, sort, 1), 1);
                DUE.is("its SORT", x.about(sort, 0), sort);
                DUE.is("its greatest number", x.put(sort, 0, ENDS[sort][1]), 1);
            }
            DUE.is("one more than a byte has", x.put(0, 0, 128), WIDE);
            DUE.is("one more than a short has", x.put(1, 0, 32768), WIDE);
            each("sheet of SORT", BAD, sort -> x.sheet(0, sort, 1), -1, 3, LEAST, GREATEST);
        });
        says("with n SAMPLES (0 .. 64),", () -> {
            WaveBuoys x = new WaveBuoys();
            for (int n = 0; n <= 64; n++) {
                DUE.is("sheet of " + n, x.sheet(0, 0, n), 1);
                DUE.is("SAMPLES of " + n, x.about(0, 1), n);
                DUE.is("the last of " + n, x.put(0, n - 1, 5), n == 0 ? PLACE : 1);
                DUE.is("behind the last of " + n, x.put(0, n, 5), PLACE);
            }
            each("sheet of", BAD, n -> x.sheet(0, 0, n), 65, GREATEST);
            each("sheet of", SIZE, n -> x.sheet(0, 0, n), -1, LEAST);
            allCallsOnSixtyFour(Made.sheet(0, Made.times(63, "5") + " -"));
        });
        says("each LOST (0), told (1) or FILLED (2);", () -> {
            WaveBuoys x = Made.sheet(0, "1 - f3");
            DUE.is("LOST", x.stands(0, 1), 0);
            DUE.is("told", x.stands(0, 0), 1);
            DUE.is("FILLED", x.stands(0, 2), 2);
        });
        says("those that are not LOST have a number that fits the SORT.", () -> {
            for (int sort = 0; sort < 3; sort++) {
                WaveBuoys x = Made.sheet(sort, ENDS[sort][0] + " - " + ENDS[sort][1]);
                DUE.is("the least of SORT " + sort, x.get(0, 0), ENDS[sort][0]);
                DUE.is("the greatest of SORT " + sort, x.get(0, 2), ENDS[sort][1]);
                DUE.is("fill of SORT " + sort, x.fill(0, 1), 1);
                DUE.is("FILLED between them", x.get(0, 1), -1);
            }
        });
        says("New ones are told, 0.", () -> {
            for (int sort = 0; sort < 3; sort++) {
                WaveBuoys x = Made.sheet(0, "9 - f9 9");
                x.sheet(0, sort, 64);
                words("new, of SORT " + sort, x, 0, Made.times(64, "0"));
            }
        });
    }

    /** SHEET 0 has 64 SAMPLES, and just the last one is LOST. */
    private static void allCallsOnSixtyFour(WaveBuoys x) {
        each("spikes by", 0, d -> x.spikes(0, d), 0);
        each("fill to", 0, m -> x.fill(0, m), 64);
        each("about", 1, what -> x.about(0, what), 2, 3, 4);
        each("copy of", 64, n -> x.copy(0, 0, 0, 0, n), 64);
        each("raise to", LOST, row -> x.raise(0, row), 0);
        each("send", 10, x::send, 0);
        each("receive", 1, x::receive, 1);
        each("drop", 64, x::drop, 0, 1);
    }

    private static void termsOfCallsOnSheets() {
        DUE.promise(8, "copy and others, terms");
        reads("```text");
        says("Calls on SHEETS fail with the first of:", () -> {
            WaveBuoys x = Made.sheet(0, "1 2 -");
            Made.sheet(x, 1, 1, "1");
            DUE.is("BAD and SIZE", x.sheet(8, 0, -1), BAD);
            DUE.is("BAD and SIZE", x.sheet(0, 3, -1), BAD);
            DUE.is("BAD and NOTHING", x.about(5, 6), BAD);
            DUE.is("BAD and NOTHING", x.copy(8, 0, 5, 0, 0), BAD);
            DUE.is("BAD and NOTHING", x.copy(5, 0, 8, 0, 0), BAD);
            DUE.is("BAD and LOST", x.raise(0, 6), BAD);
            DUE.is("NOTHING and SIZE", x.copy(5, 0, 0, 0, -1), NOTHING);
            DUE.is("NOTHING and PLACE", x.put(5, 64, 128), NOTHING);
            DUE.is("UNLIKE and SIZE", x.copy(0, 0, 1, 0, -1), UNLIKE);
            DUE.is("UNLIKE and PLACE", x.copy(0, 9, 1, 9, 1), UNLIKE);
            DUE.is("SIZE and PLACE", x.copy(0, 9, 0, 9, -1), SIZE);
            DUE.is("PLACE and WIDE", x.put(0, 3, 128), PLACE);
            DUE.failed("PLACE and LOST", x.get(0, 3), PLACE);
            x.drop(1);
            DUE.is("NOTHING and UNLIKE", x.copy(0, 0, 1, 0, 1), NOTHING);
            DUE.is("NOTHING and UNLIKE", x.copy(1, 0, 0, 0, 1), NOTHING);
        });
        says("BAD a number is not as told;", () -> {
            WaveBuoys x = new WaveBuoys();
            eachCall(BAD, x, NO_SHEETS);
            each("receive", BAD, k -> x.receive(k), NO_SHEETS);
            each("raise to", BAD, row -> x.raise(0, row), NO_ROWS);
        });
        says("NOTHING a SHEET is missing (the first told first);", () -> {
            WaveBuoys x = Made.sheet(0, "1 2");
            x.drop(0);
            x.sheet(2, 0, 2);
            eachCall(NOTHING, x, 0, 1, 3, 7);
            DUE.is("copy of two that are missing", x.copy(0, 0, 1, 0, 0), NOTHING);
        });
        says("UNLIKE two have unlike SORTS;", () -> {
            WaveBuoys x = Made.sheet(0, "1");
            Made.sheet(x, 1, 1, "1");
            Made.sheet(x, 2, 2, "1");
            for (int from = 0; from < 3; from++) {
                for (int to = 0; to < 3; to++) {
                    DUE.is("copy from SORT " + from + " to " + to, x.copy(from, 0, to, 0, 1), from == to ? 1 : UNLIKE);
                }
            }
        });
        says("SIZE a number of SAMPLES is below 0;", () -> {
            WaveBuoys x = Made.sheet(0, "1");
            each("sheet of", SIZE, n -> x.sheet(1, 0, n), -1, -64, LEAST);
            each("copy of", SIZE, n -> x.copy(0, 0, 0, 0, n), -1, -64, LEAST);
        });
        says("PLACE a SAMPLE is none of the SHEET's;", () -> {
            WaveBuoys x = Made.sheet(0, "1 2 3");
            each("put", PLACE, i -> x.put(0, i, 0), NO_PLACES_OF_THREE);
            each("get", FAILED + PLACE, i -> x.get(0, i), NO_PLACES_OF_THREE);
            each("lose", PLACE, i -> x.lose(0, i), NO_PLACES_OF_THREE);
            each("stands", PLACE, i -> x.stands(0, i), NO_PLACES_OF_THREE);
            each("copy from", PLACE, a -> x.copy(0, a, 0, 0, 1), NO_PLACES_OF_THREE);
            each("copy to", PLACE, b -> x.copy(0, 0, 0, b, 1), NO_PLACES_OF_THREE);
        });
        says("WIDE a number does not fit;", () -> {
            for (int sort = 0; sort < 2; sort++) {
                WaveBuoys x = Made.sheet(sort, "0");
                each("put in SORT " + sort, WIDE, v -> x.put(0, 0, v), ENDS[sort][0] - 1, ENDS[sort][1] + 1, LEAST, GREATEST);
            }
        });
        says("LOST a SAMPLE that is needed is LOST.", () -> {
            WaveBuoys x = Made.sheet(0, "1 - 3");
            DUE.failed("get", x.get(0, 1), LOST);
            DUE.is("get of another", x.get(0, 2), 3);
            DUE.is("raise", x.raise(0, 0), LOST);
        });
    }

    private static void termsOfSpikesAndGaps() {
        DUE.promise(9, "spikes, terms");
        says("SPIKES by d: SAMPLES that are not LOST,", () -> {
            WaveBuoys x = Made.sheet(0, "4 -9 4");
            x.lose(0, 1);
            DUE.is("spikes of a LOST one", x.spikes(0, 0), 0);
            spikes(0, "4 f-9 4", 0, 1, "4 - 4");
        });
        says("with one ahead and one behind that are not", () -> {
            spikes(0, "0 9 -", 0, 0, "0 9 -");
            spikes(0, "- 9 0", 0, 0, "- 9 0");
            spikes(0, "9", 0, 0, "9");
            spikes(0, "9 0", 0, 0, "9 0");
            spikes(0, "9 f0 9", 0, 1, "9 - 9");
            spikes(0, "9 0 0 0 9", 0, 2, "9 - 0 - 9");
        });
        says("(all as it was ahead of the call),", () -> spikes(0, "0 9 0 9 0", 0, 3, "0 - - - 0"));
        says("for which the size of twice the number less both neighbours", () -> {
            spikes(0, "1 5 3", 2, 1, "1 - 3");
            spikes(0, "1 -5 3", 6, 1, "1 - 3");
            spikes(0, "1 2 3", 0, 0, "1 2 3");
            spikes(2, LEAST + " " + GREATEST + " " + LEAST, GREATEST, 1, LEAST + " - " + LEAST);
        });
        says("is above 2 d.", () -> {
            spikes(0, "1 5 3", 3, 0, "1 5 3");
            spikes(0, "1 -5 3", 7, 0, "1 -5 3");
            spikes(0, "0 1 1", 0, 1, "0 - 1");
            spikes(0, "0 127 0", GREATEST, 0, "0 127 0");
        });
        DUE.promise(10, "fill, terms");
        says("GAPS: rows of LOST SAMPLES, as long as may be.", () -> {
            WaveBuoys x = Made.sheet(0, "- - 1 - 2 3 - - -");
            DUE.is("GAPS", x.about(0, 2), 3);
            DUE.is("the longest", x.about(0, 3), 3);
            filled(0, "0 - - 3", 1, 0, "0 - - 3");
        });
        says("INNER ones have a SAMPLE ahead and one behind.", () -> {
            filled(0, "- - 1 - 1 - - -", 64, 1, "- - 1 f1 1 - - -");
            filled(0, "- - -", 64, 0, "- - -");
        });
        says("Filled STRAIGHT its j-th SAMPLE (from 1 on) of m becomes a and (b - a) j by m + 1,", () -> {
            filled(0, "0 - - - 8", 3, 3, "0 f2 f4 f6 8");
            filled(0, "10 - - 1", 2, 2, "10 f7 f4 1");
            filled(2, LEAST + " - - " + GREATEST, 2, 2, LEAST + " f-715827883 f715827882 " + GREATEST);
        });
        says("cut toward 0,", () -> {
            filled(0, "2 - 5", 1, 1, "2 f3 5");
            filled(0, "5 - 2", 1, 1, "5 f4 2");
            filled(0, "0 - - - -6", 3, 3, "0 f-1 f-3 f-4 -6");
        });
        says("with a ahead, b behind.", () -> {
            filled(0, "4 - - 10", 2, 2, "4 f6 f8 10");
            filled(0, "10 - - 4", 2, 2, "10 f8 f6 4");
        });
        reads("```");
    }

    private static void termsOfRows() {
        DUE.promise(13, "number and others, terms");
        reads("======== 2");
        says("ROWS 0 .. 5", () -> {
            WaveBuoys x = Made.sheet(0, "7");
            each("raise to", 1, row -> x.raise(0, row), 0, 1, 2, 3, 4, 5);
            each("number", 7, row -> x.number(row, 0), 0, 1, 2, 3, 4, 5);
            each("raise to", BAD, row -> x.raise(0, row), NO_ROWS);
            each("number", FAILED + BAD, row -> x.number(row, 0), NO_ROWS);
        });
        says("have up to 64 whole numbers", () -> {
            WaveBuoys x = Made.row(Made.all(64, -9));
            DUE.is("the first", x.number(0, 0), -9);
            DUE.is("the last", x.number(0, 63), -9);
            DUE.failed("one more", x.number(0, 64), PLACE);
            each("turn", 64, how -> Made.row(Made.all(64, 1)).turn(0, how), 0, 1, 2, 3);
            each("mix with", 64, row -> x.mix(0, 1, row, 0), 0);
            each("force to", 64 * 81, to -> x.force(0, 0, to), 63, 64, GREATEST);
            each("cross with", 64 * 81, row -> x.cross(0, row), 0);
            each("waves of", 31, row -> Made.row(Made.heights(Made.all(31, 2))).waves(row), 0);
            each("heading with t", 1, t -> x.heading(0, 0, 0, t), 1);
            each("part to", 63, to -> x.part(0, 0, to), 0);
        });
        says("(none at first),", () -> {
            WaveBuoys x = new WaveBuoys();
            each("number", FAILED + PLACE, row -> x.number(row, 0), 0, 1, 2, 3, 4, 5);
        });
        says("none above 4000000000000000 in size", () -> {
            WaveBuoys x = rows(of(MOST / 2, -MOST / 2), of(1, -1));
            DUE.is("mix to the greatest", x.mix(0, 2, 0, 0), 2);
            numbers("the greatest", x, 0, MOST, -MOST);
            DUE.is("mix to one more", x.mix(0, 1, 1, 1), FAR);
        });
        says("(FAR: a ROW would have such,", () -> {
            DUE.is("LEVEL", Made.row(MOST / 2, -MOST / 2 - 1).turn(0, 0), FAR);
            DUE.is("LEVEL, of one less", Made.row(MOST / 2, -MOST / 2).turn(0, 0), 2);
            DUE.is("TONES", Made.row(MOST, 1).turn(0, 3), FAR);
            DUE.is("TONES, of one less", Made.row(MOST - 1, 1).turn(0, 3), 2);
            DUE.is("mix, above", rows(of(MOST), of(1)).mix(0, 1, 1, 1), FAR);
            DUE.is("mix, below", rows(of(-MOST), of(1)).mix(0, 1, 1, -1), FAR);
            DUE.is("mix, of the greatest there are", rows(of(MOST), of(MOST)).mix(0, 1000, 1, 1000), FAR);
        });
        says("or, of FLAT and TWICE, it has one above 4000000000 in size;", () -> {
            for (int how = 1; how <= 2; how++) {
                DUE.is("turn " + how + " of the greatest", Made.row(MOST_SUMMED, -MOST_SUMMED).turn(0, how), 2);
                DUE.is("turn " + how + " of one more", Made.row(0, MOST_SUMMED + 1).turn(0, how), FAR);
                DUE.is("turn " + how + " of one more below", Made.row(-MOST_SUMMED - 1, 0).turn(0, how), FAR);
            }
            DUE.is("LEVEL of one more", Made.row(0, MOST_SUMMED + 1).turn(0, 0), 2);
            DUE.is("TONES of one more", Made.row(0, MOST_SUMMED + 1).turn(0, 3), 2);
        });
        says("it stays, then).", () -> {
            WaveBuoys x = rows(of(0, 0, MOST - 1), of(1, 0, 2));
            DUE.is("LEVEL", x.turn(0, 0), FAR);
            DUE.is("FLAT", x.turn(0, 1), FAR);
            DUE.is("TWICE", x.turn(0, 2), FAR);
            DUE.is("mix", x.mix(0, 1, 1, 1), FAR);
            numbers("behind these", x, 0, 0, 0, MOST - 1);
            WaveBuoys y = Made.row(MOST, -MOST);
            DUE.is("TONES", y.turn(0, 3), FAR);
            numbers("behind TONES", y, 0, MOST, -MOST);
        });
    }

    private static void termsOfTurns() {
        DUE.promise(14, "turn, terms");
        reads("```text");
        says("LEVEL: each number x becomes n x less the sum of all.", () -> {
            turned(0, of(5, -3, 7), 6, -18, 12);
            turned(0, of(9), 0);
            turned(0, of());
            turned(0, one(64, 63, 1), lastOf(64, -1, 63));
        });
        says("FLAT, with n 2 or more:", () -> {
            DUE.is("FLAT of none", new WaveBuoys().turn(0, 1), NO);
            DUE.is("FLAT of one", Made.row(5).turn(0, 1), NO);
            DUE.is("FLAT of two", Made.row(5, 6).turn(0, 1), 2);
        });
        says("n (n n - 1) x(i) less (n n - 1) times the sum of all less 3 (2 i - n + 1) times the sum over k"
            + " of (2 k - n + 1) x(k).", () -> {
            turned(1, of(1, 0, 4), 20, -40, 20);
            turned(1, of(5, -9), 0, 0);
            turned(1, of(1, 3, 5, 7), 0, 0, 0, 0);
            turned(1, of(1, 0, 0, 0), 18, -24, -6, 12);
        });
        says("TWICE, with n 2 or more:", () -> {
            DUE.is("TWICE of none", new WaveBuoys().turn(0, 2), NO);
            DUE.is("TWICE of one", Made.row(5).turn(0, 2), NO);
            DUE.is("TWICE of two", Made.row(5, 6).turn(0, 2), 2);
        });
        says("with h(i) the sum over k below i of (i - k) x(k), number i becomes (n - 1) h(i) less i h(n - 1).", () -> {
            turned(2, of(5, -3, 7, -9), 0, -1, -11, 0);
            turned(2, of(5, 6), 0, 0);
            turned(2, of(0, 1, 0), 0, -1, 0);
            turned(2, of(1, 1, 1, 1), 0, -3, -3, 0);
            WaveBuoys x = Made.row(5, -3, 7);
            x.turn(0, 0);
            x.turn(0, 2);
            numbers("LEVEL, then TWICE", x, 0, 0, 18, 0);
        });
        says("TONES, for n 1, 2, 4, .. 64:", () -> {
            for (int n = 0; n <= 64; n++) {
                boolean told = n == 1 || n == 2 || n == 4 || n == 8 || n == 16 || n == 32 || n == 64;
                DUE.is("TONES of " + n, Made.row(Made.all(n, 1)).turn(0, 3), told ? n : NO);
            }
        });
        says("number k becomes the sum over i of x(i) with its SIGN(i, k):", () -> {
            turned(3, of(7), 7);
            turned(3, of(5, 3), 8, 2);
            turned(3, of(1, 2, 4, 8), 15, -9, 3, -5);
            turned(3, Made.all(64, 3), one(64, 0, 192));
        });
        says("with g = k and k halved, exclusive or;", () -> {
            for (int n = 1; n <= 64; n *= 2) {
                eachToneChangesItsSign(n);
            }
        });
        says("and g turned about in its bits (as many as n - 1 has, the lowest becoming the highest):", () -> {
            DUE.is("tone 1 of 8", tone(1, 1, 2, 4, 8, 16, 32, 64, 128), 15 - 240);
            DUE.is("tone 2 of 8", tone(2, 1, 2, 4, 8, 16, 32, 64, 128), 3 + 192 - 60);
            DUE.is("tone 7 of 8", tone(7, 1, 2, 4, 8, 16, 32, 64, 128), 85 - 170);
            DUE.is("tone 1 of 64", tone(1, one(64, 31, 5)), 5);
            DUE.is("tone 1 of 64", tone(1, one(64, 32, 5)), -5);
        });
        says("minus if i and that have an odd number of bits 1 in common.", () -> {
            DUE.is("none in common", tone(3, 0, 0, 5, 0), 5);
            DUE.is("one in common", tone(3, 0, 5, 0, 0), -5);
            DUE.is("two in common", tone(2, 0, 0, 0, 5), 5);
            DUE.is("three in common", tone(5, 0, 0, 0, 0, 0, 0, 0, 5), -5);
        });
    }

    /** n numbers: all the same but the last. */
    private static long[] lastOf(int n, long each, long last) {
        long[] numbers = Made.all(n, each);
        numbers[n - 1] = last;
        return numbers;
    }

    private static long tone(int k, long... of) {
        WaveBuoys x = Made.row(of);
        x.turn(0, 3);
        return x.number(0, k);
    }

    /** What these signs are for: tone k begins with plus and changes its sign k times. */
    private static void eachToneChangesItsSign(int n) {
        long[] ahead = Made.all(n, 1);
        int[] changes = new int[n];
        for (int i = 0; i < n; i++) {
            WaveBuoys x = Made.row(one(n, i, 1));
            x.turn(0, 3);
            for (int k = 0; k < n; k++) {
                long sign = x.number(0, k);
                DUE.is("size of SIGN(" + i + ", " + k + ") of " + n, Math.abs(sign), 1);
                changes[k] += sign != ahead[k] ? 1 : 0;
                ahead[k] = sign;
            }
        }
        for (int k = 0; k < n; k++) {
            DUE.is("how often tone " + k + " of " + n + " changes", changes[k], k);
        }
    }

    private static void termsOfForceAndCross() {
        DUE.promise(17, "force, terms");
        says("The FORCE of numbers: the sum of their squares;", () -> {
            DUE.is("force", Made.row(3, -4, 12).force(0, 0, 2), 169);
            DUE.is("the greatest", Made.row(Made.all(64, -MOST_SQUARED)).force(0, 0, 63), 64 * MOST_SQUARED * MOST_SQUARED);
        });
        says("none of which may be above 200000000 in size (FAR).", () -> {
            DUE.is("of the greatest", Made.row(MOST_SQUARED).force(0, 0, 0), MOST_SQUARED * MOST_SQUARED);
            DUE.is("of the least", Made.row(-MOST_SQUARED).force(0, 0, 0), MOST_SQUARED * MOST_SQUARED);
            DUE.failed("of one more", Made.row(1, MOST_SQUARED + 1).force(0, 0, 1), FAR);
            DUE.failed("of one less", Made.row(-MOST_SQUARED - 1, 1).force(0, 0, 1), FAR);
        });
        DUE.promise(18, "cross, terms");
        says("CROSS of two ROWS of as many numbers:", () -> {
            DUE.failed("of one more", rows(of(1, 2), of(1)).cross(0, 1), NO);
            DUE.failed("of one less", rows(of(1), of(1, 2)).cross(0, 1), NO);
            DUE.is("of none", new WaveBuoys().cross(0, 1), 0);
        });
        says("the sum of products,", () -> {
            DUE.is("cross", rows(of(1, 2, 3), of(4, -5, 7)).cross(0, 1), 15);
            DUE.is("of itself", Made.row(3, -4).cross(0, 0), 25);
        });
        says("likewise.", () -> {
            DUE.is("of the greatest", rows(of(MOST_SQUARED), of(-MOST_SQUARED)).cross(0, 1), -MOST_SQUARED * MOST_SQUARED);
            DUE.failed("one more here", rows(of(0, MOST_SQUARED + 1), of(0, 0)).cross(0, 1), FAR);
            DUE.failed("one more there", rows(of(0, 0), of(-MOST_SQUARED - 1, 0)).cross(0, 1), FAR);
        });
    }

    private static void termsOfWaves() {
        DUE.promise(19, "waves, terms");
        says("A number's SIDE: 1 above 0, -1 below 0;", () -> {
            DUE.is("up and up", Made.row(-1, 1, -1, 1).waves(0), 1);
            DUE.is("down and down", Made.row(1, -1, 1, -1).waves(0), 0);
            DUE.is("far up and up", Made.row(-MOST, MOST, -MOST, MOST).waves(0), 1);
        });
        says("of a 0 that of the one ahead", () -> {
            WaveBuoys x = Made.row(-1, 0, 1, 0, -1, 0, 0, 1, 0);
            DUE.is("waves", x.waves(0), 1);
            DUE.is("where it begins", x.wave(0, 0, 0), 2);
            DUE.is("how many numbers it has", x.wave(0, 0, 1), 5);
            DUE.is("down to 0 and up", Made.row(-1, 1, 0, 1, 0, 1).waves(0), 0);
        });
        says("(0 at the beginning).", () -> {
            WaveBuoys x = Made.row(0, 0, 1, -1, 1, -1, 1);
            DUE.is("waves", x.waves(0), 1);
            DUE.is("where it begins", x.wave(0, 0, 0), 4);
            DUE.is("up at once", Made.row(1, -1, 1).waves(0), 0);
        });
        says("A TURN UP is where the SIDE is 1, and -1 just ahead.", () -> {
            WaveBuoys x = Made.row(-2, -1, 3, 4, -1, 5);
            DUE.is("waves", x.waves(0), 1);
            DUE.is("where it begins", x.wave(0, 0, 0), 2);
            DUE.is("how many numbers it has", x.wave(0, 0, 1), 3);
        });
        says("A WAVE goes from a TURN UP to the next one (not with it);", () -> {
            WaveBuoys x = Made.row(-9, 3, -1, 5, -2, -1, 8);
            DUE.is("waves", x.waves(0), 2);
            DUE.is("where the first begins", x.wave(0, 0, 0), 1);
            DUE.is("how many numbers it has", x.wave(0, 0, 1), 2);
            DUE.is("its greatest", x.wave(0, 0, 2), 3);
            DUE.is("its least", x.wave(0, 0, 3), -1);
            DUE.is("where the second begins", x.wave(0, 1, 0), 3);
            DUE.is("how many numbers it has", x.wave(0, 1, 1), 3);
        });
        says("its HEIGHT: the greatest of its numbers less the least.", () -> {
            WaveBuoys x = Made.row(-1, 3, 7, 2, -4, -6, -5, 5);
            DUE.is("HEIGHT", x.wave(0, 0, 4), 13);
            DUE.is("the greatest HEIGHT", Made.row(-1, MOST, -MOST, 1).wave(0, 0, 4), 2 * MOST);
        });
        DUE.promise(21, "third, terms");
        says("THIRD: how many WAVES, by 3, cut, at least 1;", () -> {
            third("of 1", 9, 1, 9);
            third("of 2", 9, 1, 9, 4);
            third("of 3", 9, 1, 9, 4, 4);
            third("of 5", 9, 1, 9, 4, 4, 4, 4);
            third("of 6", 13, 2, 9, 4, 4, 4, 4, 4);
            third("of 8", 13, 2, 9, 4, 4, 4, 4, 4, 4, 4);
            third("of 9", 17, 3, 9, 4, 4, 4, 4, 4, 4, 4, 4);
        });
        says("the highest ones of these,", () -> {
            third("the last two", 15, 2, 2, 3, 4, 5, 7, 8);
            third("the first two", 15, 2, 8, 7, 5, 4, 3, 2);
            third("the first and the last", 15, 2, 7, 2, 2, 2, 2, 8);
            third("of two that are alike just one", 13, 2, 8, 5, 5, 2, 2, 2);
            WaveBuoys x = Made.row(Made.heights(50, 50, 50, 50, 50, 50));
            x.third(0, 0);
            Made.row(x, 0, -1, 1, -1, 2, -1, 40);
            DUE.is("no higher ones that were there", x.third(0, 0), 3);
        });
        says("their HEIGHTS together, by how many these are.", () -> {
            third("of 6", 15, 2, 9, 2, 2, 2, 2, 6);
            third("of 9", 20, 3, 9, 2, 2, 5, 2, 2, 2, 6, 3);
        });
    }

    private static void termsOfPacks() {
        DUE.promise(24, "send, terms");
        reads("``` ======== 3");
        says("PACKS: of a SHEET that is SENT each 8 SAMPLES from the first on are one", () -> {
            String words = Made.times(24, "5");
            WaveBuoys x = Made.sheet(0, words);
            DUE.is("send", x.send(0), 4);
            for (int p = 0; p < 3; p++) {
                DUE.is("PACK " + p, received(x, p, 3), without(words, 8 * p, 8 * p + 8));
            }
        });
        says("(the last one of fewer, perhaps),", () -> {
            for (int n = 1; n <= 8; n++) {
                WaveBuoys x = Made.sheet(0, Made.times(8 + n, "5"));
                DUE.is("send of 8 and " + n, x.send(0), 3);
                DUE.is("the last one", received(x, 1, 2), without(Made.times(8 + n, "5"), 8, 8 + n));
            }
        });
        says("numbered from 0;", () -> {
            WaveBuoys x = Made.sheet(0, "5");
            x.send(0);
            each("miss", BAD, p -> x.miss(p), -1, 2);
            each("miss", 1, p -> x.miss(p), 0, 1);
        });
        says("behind all one more for each four of these (0 .. 3, 4 .. 7), a SUM:", () -> {
            int[] samples = {0, 1, 8, 9, 32, 33, 40, 41, 63, 64};
            int[] packs = {0, 2, 2, 3, 5, 7, 7, 8, 10, 10};
            for (int i = 0; i < samples.length; i++) {
                DUE.is("send of " + samples[i], Made.sheet(0, Made.times(samples[i], "5")).send(0), packs[i]);
            }
            String words = mixedWords(64);
            DUE.is("3 by SUM 8", received(Made.sheet(0, words), 3, 9), words);
            DUE.is("3 without SUM 8", received(Made.sheet(0, words), 3, 8), without(words, 24, 32));
            DUE.is("4 by SUM 9", received(Made.sheet(0, words), 4, 8), words);
            DUE.is("4 without SUM 9", received(Made.sheet(0, words), 4, 9), without(words, 32, 40));
        });
        says("exclusive or of what they have at each of 8 places, by bits", () -> {
            StringBuilder words = new StringBuilder(LEAST + " " + GREATEST);
            for (int i = 2; i < 64; i++) {
                words.append(" ").append(i * 1640531527);
            }
            for (int p = 0; p < 8; p++) {
                DUE.is("mended " + p, received(Made.sheet(2, words.toString()), p), words.toString());
            }
        });
        says("(numbers of LOST ones, and those that there are none, as 0),", () -> {
            String words = "1 2 3 4 5 6 7 8 - - 11 f-12 13 - 15 16 17 -";
            for (int p = 0; p < 3; p++) {
                DUE.is("mended " + p, received(Made.sheet(0, words), p), words);
            }
        });
        says("and of whether it is told, FILLED likewise.", () -> {
            String words = "0 f0 - f7 0 f0 - f7 - - - f1 f1 f1 1 1 1 - f3";
            for (int p = 0; p < 3; p++) {
                DUE.is("mended " + p, received(Made.sheet(0, words), p), words);
            }
        });
    }

    private static void termsOfReceived() {
        DUE.promise(26, "receive, terms");
        says("RECEIVED: PACKS that were not LOST as they were;", () -> {
            String words = mixedWords(50);
            DUE.is("none LOST", received(Made.sheet(0, words)), words);
            DUE.is("SUMS LOST", received(Made.sheet(0, words), 7, 8), words);
            DUE.is("others LOST", received(Made.sheet(0, words), 0, 1), without(words, 0, 16));
        });
        says("of four (or fewer) of which just one was LOST, and not their SUM, that one as the others and the SUM tell;", () -> {
            String words = mixedWords(64);
            for (int p = 0; p < 8; p++) {
                DUE.is("just " + p, received(Made.sheet(0, words), p), words);
            }
            DUE.is("one of each four", received(Made.sheet(0, words), 2, 4), words);
            DUE.is("of fewer", received(Made.sheet(0, mixedWords(50)), 6), mixedWords(50));
            DUE.is("of one", received(Made.sheet(0, mixedWords(40)), 4), mixedWords(40));
            DUE.is("of one, without the other SUM", received(Made.sheet(0, mixedWords(40)), 4, 5), mixedWords(40));
        });
        says("else its SAMPLES are LOST.", () -> {
            String words = Made.times(64, "5");
            DUE.is("two of four", received(Made.sheet(0, words), 1, 2), without(words, 8, 24));
            DUE.is("four of four", received(Made.sheet(0, words), 4, 5, 6, 7), without(words, 32, 64));
            DUE.is("one and its SUM", received(Made.sheet(0, words), 5, 9), without(words, 40, 48));
            DUE.is("both fours", received(Made.sheet(0, words), 0, 3, 4, 9), without(without(without(words, 0, 8), 24, 32), 32, 40));
        });
    }

    private static void termsOfWarningAndMooring() {
        DUE.promise(28, "hear, terms");
        reads("```text");
        says("WARNING: 0 at first.", () -> {
            WaveBuoys x = new WaveBuoys();
            DUE.is("the WARNING", x.count(5), 0);
            DUE.is("between OFF and ON", x.hear(75), 0);
        });
        says("Each value heard (they are numbered from 1 on) makes it 1 if it is ON or more,", () -> {
            WaveBuoys x = ruled(10, 5, 0);
            each("hear", 0, x::hear, 9, 8);
            DUE.is("hear 10", x.hear(10), 1);
            DUE.is("values heard", x.count(3), 3);
            DUE.is("more", ruled(10, 5, 0).hear(GREATEST), 1);
            DUE.is("below 0", ruled(-10, -20, 0).hear(-10), 1);
        });
        says("0 if it is OFF or less;", () -> {
            WaveBuoys x = ruled(10, 5, 0);
            each("hear", 1, x::hear, 10, 9, 6);
            DUE.is("hear 5", x.hear(5), 0);
            DUE.is("between", x.hear(9), 0);
            x.hear(10);
            DUE.is("less", x.hear(LEAST), 0);
        });
        says("but not if it changed within the HOLD values heard just ahead.", () -> {
            WaveBuoys x = ruled(10, 5, 3);
            DUE.is("the first value: none is ahead", x.hear(10), 1);
            each("within three", 1, x::hear, 5, 0, 5);
            DUE.is("behind three", x.hear(5), 0);
            each("within three again", 0, x::hear, 10, 10, 10);
            DUE.is("behind three again", x.hear(10), 1);
            WaveBuoys y = ruled(10, 5, 0);
            each("HOLD 0", 1, y::hear, 10);
            each("HOLD 0", 0, y::hear, 5);
        });
        DUE.promise(30, "fix, terms");
        says("MOORING: an anchor at x, y, with r and m:", () -> {
            DUE.is("at x, y", moored(-700, 900, 0, 1).fix(-700, 900), 0);
            DUE.is("not at x, y", moored(-700, 900, 0, 1).fix(900, -700), 2);
        });
        says("a place is OUT if it is farther than r from the anchor (exactly).", () -> {
            WaveBuoys x = moored(10, 20, 5, 100);
            each("fix on the way to 13, 24, within 5", 0, y -> x.fix(13, y), 20, 24, 16);
            each("fix farther than 5", 1, y -> x.fix(14, y), 24, 16);
            WaveBuoys far = moored(0, 0, 1000000, 100);
            DUE.is("1000000 away", far.fix(-600000, 800000), 0);
            DUE.is("just farther", far.fix(1000000, 1), 1);
            DUE.is("just farther", far.fix(-600001, -800000), 1);
            DUE.is("farthest", moored(-1000000, -1000000, 1000000, 2).fix(1000000, 1000000), 1);
        });
        says("ADRIFT: the m latest places, or more, are OUT one after another.", () -> {
            WaveBuoys x = moored(0, 0, 1, 3);
            each("OUT", 1, y -> x.fix(2, y), 0, 1);
            each("ADRIFT", 2, y -> x.fix(2, y), 2, 3);
            DUE.is("not OUT", x.fix(0, 1), 0);
            each("OUT again", 1, y -> x.fix(2, y), 0, 1);
            DUE.is("ADRIFT again", x.fix(2, 2), 2);
        });
        reads("```");
    }
}
