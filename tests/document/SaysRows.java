/** Promises 12 to 23, sentence by sentence. */
final class SaysRows extends Says {
    static void all() {
        promise12Raise();
        promise13Number();
        promise14Turn();
        promise15Part();
        promise16Mix();
        promise17Force();
        promise18Cross();
        promise19Waves();
        promise20Wave();
        promise21Third();
        promise22Groups();
        promise23Heading();
        promise23Eighths();
    }

    private static void promise12Raise() {
        promise(12, "raise", "int raise(int k, int row)");
        says("A ROW becomes the numbers of a SHEET's SAMPLES:", () -> {
            WaveBuoys x = Made.sheet(2, LEAST + " f2 -3");
            Made.row(x, 4, 7, 7, 7, 7, 7);
            x.raise(0, 4);
            numbers("raised", x, 4, LEAST, 2, -3);
            x.put(0, 2, 9);
            numbers("raised, the SHEET changed", x, 4, LEAST, 2, -3);
        });
        says("how many.", () -> {
            DUE.is("raise", Made.sheet(0, "1 2 3").raise(0, 0), 3);
            DUE.is("raise of none", Made.sheet(0, "").raise(0, 0), 0);
            DUE.is("raise of 64", Made.sheet(0, Made.times(64, "5")).raise(0, 0), 64);
        });
        says("BAD,", () -> {
            each("raise from", BAD, k -> new WaveBuoys().raise(k, 0), NO_SHEETS);
            each("raise to", BAD, row -> Made.sheet(0, "1").raise(0, row), NO_ROWS);
        });
        says("NOTHING,", () -> each("raise", NOTHING, k -> Made.sheet(0, "1").raise(k, 0), 1, 7));
        says("LOST.", () -> {
            for (String words : new String[] {"- 2 3", "1 - 3", "1 2 -"}) {
                WaveBuoys x = Made.row(5, 6);
                Made.sheet(x, 0, 0, words);
                DUE.is("raise of " + words, x.raise(0, 0), LOST);
                numbers("refused", x, 0, 5, 6);
            }
        });
    }

    private static void promise13Number() {
        promise(13, "number", "long number(int row, int i)");
        says("A ROW's number.", () -> {
            WaveBuoys x = rows(of(-MOST, 0, 5), of(8));
            DUE.is("number", x.number(0, 0), -MOST);
            DUE.is("number", x.number(0, 2), 5);
            DUE.is("number", x.number(1, 0), 8);
        });
        says("Failures: BAD,", () -> each("number", FAILED + BAD, row -> new WaveBuoys().number(row, 0), NO_ROWS));
        says("PLACE.", () -> each("number", FAILED + PLACE, i -> Made.row(5, 6, 7).number(0, i), NO_PLACES_OF_THREE));
    }

    private static void promise14Turn() {
        promise(14, "turn", "int turn(int row, int how)");
        says("LEVEL (how = 0),", () -> turned(0, of(1, 0, 0, 0), 3, -1, -1, -1));
        says("FLAT (1),", () -> turned(1, of(1, 0, 0, 0), 18, -24, -6, 12));
        says("TWICE (2),", () -> turned(2, of(1, 0, 0, 0), 0, 0, 0, 0));
        says("TONES (3):", () -> turned(3, of(1, 0, 0, 0), 1, 1, 1, 1));
        says("how many numbers.", () -> {
            for (int how = 0; how < 4; how++) {
                DUE.is("turn " + how + " of 2", Made.row(1, 2).turn(0, how), 2);
                DUE.is("turn " + how + " of 64", Made.row(Made.all(64, 2)).turn(0, how), 64);
            }
        });
        says("BAD;", () -> {
            each("turn", BAD, row -> new WaveBuoys().turn(row, 0), NO_ROWS);
            each("turn, how", BAD, how -> Made.row(1, 2).turn(0, how), -1, 4, LEAST, GREATEST);
            each("turn, how, of none", BAD, how -> new WaveBuoys().turn(0, how), -1, 4);
        });
        says("NO: n is not as told;", () -> {
            DUE.is("FLAT of 1, FAR too", Made.row(MOST).turn(0, 1), NO);
            DUE.is("TWICE of 1, FAR too", Made.row(MOST).turn(0, 2), NO);
            DUE.is("TONES of 3, FAR too", Made.row(MOST, MOST, MOST).turn(0, 3), NO);
            DUE.is("TONES of 0", new WaveBuoys().turn(0, 3), NO);
            DUE.is("LEVEL of 0", new WaveBuoys().turn(0, 0), 0);
        });
        says("FAR.", () -> {
            for (int how = 0; how < 4; how++) {
                WaveBuoys x = Made.row(MOST, MOST - 1, 1, -MOST);
                DUE.is("turn " + how, x.turn(0, how), FAR);
                numbers("refused", x, 0, MOST, MOST - 1, 1, -MOST);
            }
        });
    }

    private static void parted(int from, int to, int want, long... becomes) {
        WaveBuoys x = Made.row(4, 0, -6, 7, 0, 9);
        DUE.is("part(0, " + from + ", " + to + ")", x.part(0, from, to), want);
        numbers("part", x, 0, becomes);
    }

    private static void promise15Part() {
        promise(15, "part", "int part(int row, int from, int to)");
        says("Numbers but those from .. to become 0:", () -> {
            parted(2, 3, 2, 0, 0, -6, 7, 0, 0);
            parted(0, 0, 3, 4, 0, 0, 0, 0, 0);
            parted(5, 5, 3, 0, 0, 0, 0, 0, 9);
            parted(0, 5, 0, 4, 0, -6, 7, 0, 9);
        });
        says("how many of those were not 0.", () -> {
            parted(3, 3, 3, 0, 0, 0, 7, 0, 0);
            parted(1, 4, 2, 0, 0, -6, 7, 0, 0);
            parted(0, 4, 1, 4, 0, -6, 7, 0, 0);
        });
        says("BAD: also from below 0, to below from.", () -> {
            each("part", BAD, row -> new WaveBuoys().part(row, 0, 0), NO_ROWS);
            each("part from", BAD, from -> Made.row(1, 2).part(0, from, 1), -1, 2, LEAST, GREATEST);
            each("part to", BAD, to -> Made.row(1, 2).part(0, 1, to), 0, -1, LEAST);
        });
        says("(to may be beyond the end.)", () -> {
            parted(3, 6, 2, 0, 0, 0, 7, 0, 9);
            parted(3, GREATEST, 2, 0, 0, 0, 7, 0, 9);
            parted(6, 64, 4, 0, 0, 0, 0, 0, 0);
        });
    }

    private static void promise16Mix() {
        promise(16, "mix", "int mix(int row, int p, int other, int q)");
        says("A ROW becomes p times it and q times another one", () -> {
            WaveBuoys x = rows(of(5, -3, 0), of(1, 10, 100));
            DUE.is("mix", x.mix(0, 2, 1, -7), 3);
            numbers("mixed", x, 0, 3, -76, -700);
            numbers("the other", x, 1, 1, 10, 100);
        });
        says("(p, q -1000 .. 1000;", () -> {
            WaveBuoys x = rows(of(5), of(3));
            DUE.is("mix", x.mix(0, 1000, 1, -1000), 1);
            numbers("mixed", x, 0, 2000);
            DUE.is("mix", x.mix(0, -1000, 1, 1000), 1);
            numbers("mixed", x, 0, -1997000);
            each("mix, p", BAD, p -> x.mix(0, p, 1, 0), -1001, 1001, LEAST, GREATEST);
            each("mix, q", BAD, q -> x.mix(0, 0, 1, q), -1001, 1001, LEAST, GREATEST);
            numbers("refused", x, 0, -1997000);
        });
        says("perhaps itself):", () -> {
            WaveBuoys x = Made.row(5, -3);
            DUE.is("mix", x.mix(0, 2, 0, 3), 2);
            numbers("mixed", x, 0, 25, -15);
        });
        says("how many numbers.", () -> {
            DUE.is("mix of none", new WaveBuoys().mix(0, 1, 1, 1), 0);
            DUE.is("mix of 64", rows(Made.all(64, 1), Made.all(64, 2)).mix(0, 1, 1, 1), 64);
        });
        says("BAD;", () -> {
            each("mix", BAD, row -> new WaveBuoys().mix(row, 0, 0, 0), NO_ROWS);
            each("mix with", BAD, row -> new WaveBuoys().mix(0, 0, row, 0), NO_ROWS);
            DUE.is("mix, NO too", rows(of(1), of(1, 2)).mix(0, 1001, 1, 0), BAD);
        });
        says("NO: they have not as many;", () -> {
            WaveBuoys x = rows(of(MOST), of(MOST, 2));
            DUE.is("mix of fewer", x.mix(0, 1, 1, 1), NO);
            DUE.is("mix of more", x.mix(1, 1, 0, 1), NO);
            numbers("refused", x, 1, MOST, 2);
        });
        says("FAR.", () -> {
            WaveBuoys x = rows(of(1, MOST), of(1, 1));
            DUE.is("mix", x.mix(0, 1, 1, 1), FAR);
            DUE.is("mix", x.mix(0, -1, 1, -1), FAR);
            numbers("refused", x, 0, 1, MOST);
        });
    }

    private static void promise17Force() {
        promise(17, "force", "long force(int row, int from, int to)");
        says("The FORCE of numbers from .. to.", () -> {
            WaveBuoys x = Made.row(1, -2, 3, -4);
            DUE.is("force of all", x.force(0, 0, 3), 30);
            DUE.is("force of two", x.force(0, 1, 2), 13);
            DUE.is("force of the last", x.force(0, 3, 3), 16);
            DUE.is("force beyond the end", x.force(0, 2, GREATEST), 25);
            DUE.is("force of none", x.force(0, 4, 63), 0);
            numbers("it stays", x, 0, 1, -2, 3, -4);
        });
        says("Failures: BAD as for part(),", () -> {
            each("force", FAILED + BAD, row -> new WaveBuoys().force(row, 0, 0), NO_ROWS);
            each("force from", FAILED + BAD, from -> Made.row(1, 2).force(0, from, 1), -1, 2, LEAST, GREATEST);
            each("force to", FAILED + BAD, to -> Made.row(1, 2).force(0, 1, to), 0, -1, LEAST);
        });
        says("FAR (one of these).", () -> {
            WaveBuoys x = Made.row(MOST_SQUARED + 1, 2, -MOST_SQUARED - 1);
            DUE.failed("of the first", x.force(0, 0, 1), FAR);
            DUE.failed("of the last", x.force(0, 1, 2), FAR);
            DUE.is("of the one between", x.force(0, 1, 1), 4);
        });
    }

    private static void promise18Cross() {
        promise(18, "cross", "long cross(int row, int other)");
        says("CROSS.", () -> {
            DUE.is("cross", rows(of(2, -3), of(5, 7)).cross(0, 1), -11);
            DUE.is("the other way", rows(of(2, -3), of(5, 7)).cross(1, 0), -11);
        });
        says("Failures: BAD;", () -> {
            each("cross", FAILED + BAD, row -> new WaveBuoys().cross(row, 0), NO_ROWS);
            each("cross with", FAILED + BAD, row -> new WaveBuoys().cross(0, row), NO_ROWS);
        });
        says("NO: not as many;", () -> {
            DUE.failed("fewer", rows(of(1), of(1, 2)).cross(0, 1), NO);
            DUE.failed("more, FAR too", rows(of(1, MOST), of(1)).cross(0, 1), NO);
        });
        says("FAR.", () -> {
            DUE.failed("this", rows(of(1, MOST_SQUARED + 1), of(0, 0)).cross(0, 1), FAR);
            DUE.failed("the other", rows(of(0, 0), of(1, -MOST_SQUARED - 1)).cross(0, 1), FAR);
        });
    }

    private static void promise19Waves() {
        promise(19, "waves", "int waves(int row)");
        says("How many WAVES.", () -> {
            DUE.is("of none", new WaveBuoys().waves(0), 0);
            DUE.is("of one TURN UP", Made.row(-1, 1).waves(0), 0);
            DUE.is("of two", Made.row(-1, 1, -1, 1).waves(0), 1);
            DUE.is("of three", Made.row(-1, 1, -1, 1, -1, 1, -1).waves(0), 2);
            DUE.is("of thirty-two", Made.row(Made.heights(Made.all(31, 2))).waves(0), 31);
        });
        says("BAD.", () -> each("waves", BAD, row -> new WaveBuoys().waves(row), NO_ROWS));
    }

    private static void promise20Wave() {
        promise(20, "wave", "long wave(int row, int w, int what)");
        long[] row = {-1, 4, 9, -2, 5, -7, -6, 0, 8};
        says("Of WAVE w: 0 where it begins,", () -> waveFacts(row, 0, 1, 4));
        says("1 how many numbers it has,", () -> waveFacts(row, 1, 3, 4));
        says("2 the greatest,", () -> waveFacts(row, 2, 9, 5));
        says("3 the least,", () -> waveFacts(row, 3, -2, -7));
        says("4 HEIGHT.", () -> waveFacts(row, 4, 11, 12));
        says("Failures: BAD,", () -> {
            each("wave", FAILED + BAD, r -> new WaveBuoys().wave(r, 0, 0), NO_ROWS);
            each("wave, what", FAILED + BAD, what -> Made.row(row).wave(0, 0, what), -1, 5, LEAST, GREATEST);
            each("wave, what, PLACE too", FAILED + BAD, what -> Made.row(row).wave(0, 9, what), -1, 5);
        });
        says("PLACE: not so many.", () -> {
            each("wave", FAILED + PLACE, w -> Made.row(row).wave(0, w, 0), 2, 3, 64, GREATEST);
            each("wave of none", FAILED + PLACE, w -> Made.row(-1, 1).wave(0, w, 0), 0);
        });
    }

    private static void waveFacts(long[] row, int what, long first, long second) {
        WaveBuoys x = Made.row(row);
        DUE.is("wave(0, 0, " + what + ")", x.wave(0, 0, what), first);
        DUE.is("wave(0, 1, " + what + ")", x.wave(0, 1, what), second);
    }

    private static void promise21Third() {
        promise(21, "third", "long third(int row, int what)");
        says("THIRD in lowest terms:", () -> {
            third("8 by 2", 4, 1, 5, 3, 2, 2, 2, 2);
            third("9 by 3", 3, 1, 3, 3, 3, 2, 2, 2, 2, 2, 2);
            third("of eighteen, 20 by 6", 10, 3, 5, 3, 3, 3, 3, 3, 3, 2, 2, 2, 2, 2, 2, 2, 2, 2, 2, 2);
            third("of twelve, 10 by 4", 5, 2, 4, 2, 2, 2, 2, 2, 2, 2, 2, 2, 2, 2);
        });
        says("above (what = 0),", () -> DUE.is("above", Made.row(Made.heights(9, 6, 2, 2, 2, 2)).third(0, 0), 15));
        says("below (1).", () -> DUE.is("below", Made.row(Made.heights(9, 6, 2, 2, 2, 2)).third(0, 1), 2));
        says("Failures: BAD;", () -> {
            each("third", FAILED + BAD, row -> new WaveBuoys().third(row, 0), NO_ROWS);
            each("third, what", FAILED + BAD, what -> Made.row(Made.heights(5)).third(0, what), -1, 2, LEAST, GREATEST);
            each("third, what, NO too", FAILED + BAD, what -> new WaveBuoys().third(0, what), -1, 2);
        });
        says("NO: there is no WAVE.", () -> {
            each("third of one TURN UP", FAILED + NO, what -> Made.row(-1, 1, -1).third(0, what), 0, 1);
            each("third of none", FAILED + NO, what -> new WaveBuoys().third(0, what), 0, 1);
        });
    }

    /** WAVES with these HEIGHTS above b: how many rows of 2 or more, and the longest. */
    private static void groups(long b, int rows, int longest, long... heights) {
        WaveBuoys x = Made.row(Made.heights(heights));
        DUE.is("groups above " + b, x.groups(0, b, 0), rows);
        DUE.is("longest above " + b, x.groups(0, b, 1), longest);
    }

    private static void promise22Groups() {
        promise(22, "groups", "int groups(int row, long b, int what)");
        says("WAVES one behind the other, as long as may be,", () -> {
            groups(5, 1, 4, 2, 9, 9, 9, 9, 2);
            groups(5, 2, 3, 9, 9, 2, 9, 9, 9);
            WaveBuoys x = Made.row(Made.heights(50, 50, 50, 50, 50, 50));
            x.groups(0, 5, 0);
            Made.row(x, 0, -1, 1, -1, 8, -1, 40);
            DUE.is("none that were there", x.groups(0, 5, 0), 0);
            DUE.is("the longest, of what is there", x.groups(0, 5, 1), 1);
        });
        says("with HEIGHT above b:", () -> {
            groups(8, 1, 3, 9, 9, 9);
            groups(9, 0, 0, 9, 9, 9);
            groups(-1, 1, 3, 9, 2, 9);
            groups(Long.MIN_VALUE, 1, 2, 2, 2);
            groups(Long.MAX_VALUE, 0, 0, MOST, 2);
            WaveBuoys x = Made.row(-1, MOST, -MOST, MOST, -MOST, 1);
            DUE.is("the greatest HEIGHTS", x.groups(0, 2 * MOST - 1, 1), 2);
            DUE.is("none higher", x.groups(0, 2 * MOST, 1), 0);
        });
        says("how many such rows of 2 or more (what = 0),", () -> {
            DUE.is("one of 1, one of 2, one of 3", Made.row(Made.heights(9, 2, 9, 9, 2, 9, 9, 9)).groups(0, 5, 0), 2);
            DUE.is("each of 1", Made.row(Made.heights(9, 2, 9, 2, 9)).groups(0, 5, 0), 0);
        });
        says("the longest (1;", () -> {
            DUE.is("the first", Made.row(Made.heights(9, 9, 9, 2, 9, 9)).groups(0, 5, 1), 3);
            DUE.is("the last", Made.row(Made.heights(9, 2, 9, 9)).groups(0, 5, 1), 2);
        });
        says("0: none).", () -> {
            DUE.is("none above", Made.row(Made.heights(5, 5, 5)).groups(0, 5, 1), 0);
            DUE.is("no WAVES", Made.row(-1, 1).groups(0, 0, 1), 0);
        });
        says("BAD.", () -> {
            each("groups", BAD, row -> new WaveBuoys().groups(row, 0, 0), NO_ROWS);
            each("groups, what", BAD, what -> Made.row(Made.heights(5, 5)).groups(0, 0, what), -1, 2, LEAST, GREATEST);
        });
    }

    /** The way of one number of h (1), e and n: it is known, unless both are 0. */
    private static void way(int want, long x, long y) {
        DUE.is("heading of " + x + ", " + y, rows(of(1), of(x), of(y)).heading(0, 1, 2, 100), want);
    }

    private static void promise23Heading() {
        promise(23, "heading", "int heading(int h, int e, int n, int t)");
        says("The way of ROWS h, e, n: with x CROSS of h, e; y of h, n;", () -> {
            WaveBuoys x = rows(of(2, 1), of(1, 1), of(0, 1));
            DUE.is("x 3, y 1", x.heading(0, 1, 2, 1), 0);
            DUE.is("x 1, y 3", x.heading(0, 2, 1, 1), 1);
            DUE.is("x 1, y 1", x.heading(2, 1, 2, 1), 1);
            DUE.is("x 5, y 3", x.heading(0, 0, 1, 1), 0);
        });
        says("it is known if 100 (x x + y y) is t (1 .. 100) times the FORCE of h times the FORCES of e and n together,"
            + " or more,", () -> {
            WaveBuoys x = rows(of(1, 1), of(1, 0), of(0, 1));
            DUE.is("200 and 50 times 2 times 2", x.heading(0, 1, 2, 50), 1);
            DUE.is("200 and 51 times 2 times 2", x.heading(0, 1, 2, 51), NONE);
            WaveBuoys y = rows(of(1000, 0), of(1000, 1), of(0, 0));
            DUE.is("just less than 100", y.heading(0, 1, 2, 100), NONE);
            DUE.is("99", y.heading(0, 1, 2, 99), 0);
            WaveBuoys z = rows(Made.all(64, 1000), Made.all(64, -1000), Made.all(64, -1000));
            DUE.is("the greatest", z.heading(0, 1, 2, 100), 5);
            each("heading, t", BAD, t -> x.heading(0, 1, 2, t), 0, -1, 101, LEAST, GREATEST);
            DUE.is("t 1", x.heading(0, 1, 2, 1), 1);
        });
        says("and x, y are not both 0:", () -> {
            way(NONE, 0, 0);
            DUE.is("h is 0", rows(of(0, 0), of(5, 5), of(5, 5)).heading(0, 1, 2, 1), NONE);
            DUE.is("no numbers", new WaveBuoys().heading(0, 1, 2, 1), NONE);
        });
    }

    private static void promise23Eighths() {
        reads("eighths of a turn from x to y, cut:");
        says("0 x > y >= 0;", () -> {
            way(0, 1, 0);
            way(0, 3, 2);
        });
        says("1 y >= x > 0;", () -> {
            way(1, 1, 1);
            way(1, 1, 3);
        });
        says("2 y > -x >= 0;", () -> {
            way(2, 0, 1);
            way(2, -2, 3);
        });
        says("3 -x >= y > 0;", () -> {
            way(3, -1, 1);
            way(3, -3, 1);
        });
        says("4 -x > -y >= 0;", () -> {
            way(4, -1, 0);
            way(4, -3, -2);
        });
        says("5 -y >= -x > 0;", () -> {
            way(5, -1, -1);
            way(5, -1, -3);
        });
        says("6 -y > x >= 0;", () -> {
            way(6, 0, -1);
            way(6, 2, -3);
        });
        says("7 x >= -y > 0.", () -> {
            way(7, 1, -1);
            way(7, 3, -1);
        });
        says("NONE: it is not known.", () -> DUE.is("not known", rows(of(1, 1), of(1, 0), of(0, 0)).heading(0, 1, 2, 51), NONE));
        says("BAD;", () -> {
            WaveBuoys x = rows(of(1), of(1), of(1));
            each("heading of h", BAD, row -> x.heading(row, 1, 2, 1), NO_ROWS);
            each("heading of e", BAD, row -> x.heading(0, row, 2, 1), NO_ROWS);
            each("heading of n", BAD, row -> x.heading(0, 1, row, 1), NO_ROWS);
            DUE.is("t, NO too", rows(of(1), of(1, 2), of(1)).heading(0, 1, 2, 0), BAD);
        });
        says("NO: not as many;", () -> {
            DUE.is("h", rows(of(1, 1), of(1), of(1)).heading(0, 1, 2, 1), NO);
            DUE.is("e, FAR too", rows(of(1), of(1, 1001), of(1)).heading(0, 1, 2, 1), NO);
            DUE.is("n", rows(of(1), of(1), of(1, 1)).heading(0, 1, 2, 1), NO);
        });
        says("FAR: a number of these above 1000 in size.", () -> {
            DUE.is("1000", rows(of(1000), of(1000), of(-1000)).heading(0, 1, 2, 1), 7);
            DUE.is("h", rows(of(0, 1001), of(1, 1), of(1, 1)).heading(0, 1, 2, 1), FAR);
            DUE.is("e", rows(of(1, 1), of(-1001, 0), of(1, 1)).heading(0, 1, 2, 1), FAR);
            DUE.is("n", rows(of(1, 1), of(1, 1), of(0, 1001)).heading(0, 1, 2, 1), FAR);
        });
    }
}
