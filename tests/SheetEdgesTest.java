/** Promises 1 to 11: a test of its own for each sentence that names a boundary case; each name begins
 *  with the number of its promise, and the sentence stands above it where the name does not tell it. */
public final class SheetEdgesTest {
    private static final int LEAST = Integer.MIN_VALUE;
    private static final int GREATEST = Integer.MAX_VALUE;
    private static final int BAD = WaveBuoys.BAD;
    private static final int NOTHING = WaveBuoys.NOTHING;
    private static final int UNLIKE = WaveBuoys.UNLIKE;
    private static final int SIZE = WaveBuoys.SIZE;
    private static final int PLACE = WaveBuoys.PLACE;
    private static final int WIDE = WaveBuoys.WIDE;
    private static final int LOST = WaveBuoys.LOST;
    private static final int[] NO_SHEETS = {-1, 8, LEAST, GREATEST};
    private static final int[] NO_PLACES_OF_THREE = {-1, 3, 63, 64, LEAST, GREATEST};
    private static final int[][] ENDS = {{-128, 127}, {-32768, 32767}, {LEAST, GREATEST}};
    private static final Due DUE = new Due();

    public static void main(String[] args) throws Exception {
        DUE.runEach(SheetEdgesTest.class, 1, 11);
        DUE.end();
    }

    // ---- promise 1: a new object

    static void p01AllSheetsAreMissing() {
        WaveBuoys x = new WaveBuoys();
        for (int k = 0; k < 8; k++) {
            DUE.is("put " + k, x.put(k, 0, 0), NOTHING);
            DUE.failed("get " + k, x.get(k, 0), NOTHING);
            DUE.is("lose " + k, x.lose(k, 0), NOTHING);
            DUE.is("stands " + k, x.stands(k, 0), NOTHING);
            DUE.is("copy " + k, x.copy(k, 0, k, 0, 0), NOTHING);
            DUE.is("spikes " + k, x.spikes(k, 0), NOTHING);
            DUE.is("fill " + k, x.fill(k, 0), NOTHING);
            DUE.is("about " + k, x.about(k, 0), NOTHING);
            DUE.is("raise " + k, x.raise(k, 0), NOTHING);
            DUE.is("send " + k, x.send(k), NOTHING);
            DUE.is("drop " + k, x.drop(k), NOTHING);
        }
    }

    static void p01AllRowsAreEmpty() {
        WaveBuoys x = new WaveBuoys();
        for (int row = 0; row < 6; row++) {
            DUE.failed("number " + row, x.number(row, 0), PLACE);
            DUE.is("LEVEL of " + row, x.turn(row, 0), 0);
            DUE.is("FLAT of " + row, x.turn(row, 1), WaveBuoys.NO);
            DUE.is("TWICE of " + row, x.turn(row, 2), WaveBuoys.NO);
            DUE.is("TONES of " + row, x.turn(row, 3), WaveBuoys.NO);
            DUE.is("part of " + row, x.part(row, 0, 0), 0);
            DUE.is("mix of " + row, x.mix(row, 1, 0, 1), 0);
            DUE.is("force of " + row, x.force(row, 0, 63), 0);
            DUE.is("cross of " + row, x.cross(row, 0), 0);
            DUE.is("waves of " + row, x.waves(row), 0);
            DUE.failed("wave of " + row, x.wave(row, 0, 0), PLACE);
            DUE.failed("third of " + row, x.third(row, 0), WaveBuoys.NO);
            DUE.is("groups of " + row, x.groups(row, -1, 0), 0);
            DUE.is("longest of groups of " + row, x.groups(row, -1, 1), 0);
            DUE.is("heading of " + row, x.heading(row, 0, 0, 1), WaveBuoys.NONE);
        }
    }

    static void p01NothingIsSent() {
        WaveBuoys x = new WaveBuoys();
        DUE.is("miss", x.miss(0), BAD);
        DUE.is("receive", x.receive(0), WaveBuoys.NO);
        DUE.is("about", x.about(0, 0), NOTHING);
    }

    static void p01OnIsOneHundred() {
        WaveBuoys x = new WaveBuoys();
        DUE.is("hear 99", x.hear(99), 0);
        DUE.is("hear 100", x.hear(100), 1);
    }

    static void p01OffIsFifty() {
        WaveBuoys x = new WaveBuoys();
        x.hear(100);
        DUE.is("hear 51", x.hear(51), 1);
        DUE.is("hear 50", x.hear(50), 0);
    }

    static void p01HoldIsNone() {
        WaveBuoys x = new WaveBuoys();
        DUE.is("hear 100", x.hear(100), 1);
        DUE.is("hear 50", x.hear(50), 0);
        DUE.is("hear 100 again", x.hear(100), 1);
    }

    static void p01AnchorIsAtNoughtWithReachNought() {
        int[][] beside = {{1, 0}, {-1, 0}, {0, 1}, {0, -1}};
        for (int[] b : beside) {
            WaveBuoys x = new WaveBuoys();
            DUE.is("fix 0 0", x.fix(0, 0), 0);
            DUE.is("fix " + b[0] + " " + b[1], x.fix(b[0], b[1]), 2);
        }
    }

    static void p01OnePlaceOutIsAdrift() {
        DUE.is("fix 9 9, the first call", new WaveBuoys().fix(9, 9), 2);
    }

    static void p01AllCountsAreNought() {
        WaveBuoys x = new WaveBuoys();
        for (int what = 0; what < 10; what++) {
            DUE.is("count " + what, x.count(what), 0);
        }
    }

    static void p01ObjectsHaveNothingTogether() {
        WaveBuoys x = Made.sheet(1, "1 2 3");
        WaveBuoys y = new WaveBuoys();
        x.raise(0, 0);
        x.send(0);
        x.hear(100);
        x.fix(1, 1);
        DUE.is("digest of another", y.digest(), new WaveBuoys().digest());
        DUE.is("receive of another", y.receive(0), WaveBuoys.NO);
        y.sheet(0, 0, 1);
        DUE.is("the first stays", Made.words(x, 0), "1 2 3");
    }

    // ---- promise 2: sheet

    static void p02SheetsFrom0To7() {
        WaveBuoys x = new WaveBuoys();
        DUE.is("the least", x.sheet(0, 0, 1), 1);
        DUE.is("the greatest", x.sheet(7, 0, 1), 1);
        for (int k : NO_SHEETS) {
            DUE.is("sheet " + k, x.sheet(k, 0, 1), BAD);
        }
        DUE.is("how many", x.count(0), 2);
    }

    static void p02SortsFrom0To2() {
        WaveBuoys x = new WaveBuoys();
        for (int sort = 0; sort < 3; sort++) {
            DUE.is("SORT " + sort, x.sheet(0, sort, 1), 1);
            DUE.is("about SORT " + sort, x.about(0, 0), sort);
        }
        int[] none = {-1, 3, LEAST, GREATEST};
        for (int sort : none) {
            DUE.is("SORT " + sort, x.sheet(0, sort, 1), BAD);
        }
    }

    static void p02NoneAreAllowed() {
        WaveBuoys x = new WaveBuoys();
        DUE.is("sheet of none", x.sheet(0, 0, 0), 1);
        DUE.is("how many", x.about(0, 1), 0);
        DUE.is("it is there", x.count(0), 1);
    }

    static void p02SixtyFourAreAllowed() {
        WaveBuoys x = new WaveBuoys();
        DUE.is("sheet of 64", x.sheet(0, 0, 64), 1);
        DUE.is("how many", x.about(0, 1), 64);
    }

    /** BAD: also n above 64. */
    static void p02MoreThan64AreBad() {
        WaveBuoys x = new WaveBuoys();
        DUE.is("65", x.sheet(0, 0, 65), BAD);
        DUE.is("as many as may be", x.sheet(0, 0, GREATEST), BAD);
    }

    /** SIZE: a number of SAMPLES is below 0. */
    static void p02BelowNoneIsSize() {
        WaveBuoys x = new WaveBuoys();
        DUE.is("-1", x.sheet(0, 0, -1), SIZE);
        DUE.is("the least", x.sheet(0, 0, LEAST), SIZE);
    }

    static void p02BadAheadOfSize() {
        WaveBuoys x = new WaveBuoys();
        DUE.is("SHEET below", x.sheet(-1, 0, -1), BAD);
        DUE.is("SHEET above", x.sheet(8, 0, -1), BAD);
        DUE.is("SORT below", x.sheet(0, -1, -1), BAD);
        DUE.is("SORT above", x.sheet(0, 3, -1), BAD);
    }

    /** New ones are told, 0. */
    static void p02NewOnesAreToldAndNought() {
        for (int sort = 0; sort < 3; sort++) {
            WaveBuoys x = new WaveBuoys();
            x.sheet(3, sort, 64);
            DUE.is("64 of SORT " + sort, Made.words(x, 3), Made.times(64, "0"));
        }
    }

    static void p02NothingStaysOfTheSheetThatWas() {
        WaveBuoys x = Made.sheet(2, "-2147483648 - f5 7 -");
        x.sheet(0, 1, 3);
        DUE.is("fewer", Made.words(x, 0), "0 0 0");
        DUE.is("SORT", x.about(0, 0), 1);
        x.sheet(0, 0, 7);
        DUE.is("more", Made.words(x, 0), "0 0 0 0 0 0 0");
        DUE.is("how many SHEETS", x.count(0), 1);
    }

    static void p02NothingStaysOfTheSheetThatWasDropped() {
        WaveBuoys x = Made.sheet(2, "-2147483648 - f5 7 -");
        x.drop(0);
        x.sheet(0, 2, 6);
        DUE.is("anew", Made.words(x, 0), "0 0 0 0 0 0");
    }

    static void p02RefusedLeavesTheSheet() {
        WaveBuoys x = Made.sheet(1, "3 - f4 -5");
        int[][] refused = {{0, 3, 1}, {0, -1, 1}, {0, 0, 65}, {0, 0, -1}, {8, 0, 1}, {-1, 0, 1}};
        for (int[] r : refused) {
            x.sheet(r[0], r[1], r[2]);
            DUE.is("SHEET 0 behind " + r[0] + " " + r[1] + " " + r[2], Made.words(x, 0), "3 - f4 -5");
            DUE.is("its SORT", x.about(0, 0), 1);
        }
        x.sheet(1, 0, 65);
        x.sheet(1, 0, -1);
        x.sheet(1, 3, 1);
        DUE.is("one that was missing", Made.words(x, 1), "missing");
    }

    static void p02AllEightAtOnce() {
        WaveBuoys x = new WaveBuoys();
        for (int k = 0; k < 8; k++) {
            x.sheet(k, k % 3, k);
        }
        for (int k = 0; k < 8; k++) {
            DUE.is("SORT of " + k, x.about(k, 0), k % 3);
            DUE.is("SAMPLES of " + k, x.about(k, 1), k);
        }
    }

    // ---- promise 3: drop

    static void p03SheetsFrom0To7() {
        WaveBuoys x = new WaveBuoys();
        x.sheet(0, 0, 2);
        x.sheet(7, 0, 3);
        for (int k : NO_SHEETS) {
            DUE.is("drop " + k, x.drop(k), BAD);
        }
        DUE.is("the least", x.drop(0), 2);
        DUE.is("the greatest", x.drop(7), 3);
    }

    static void p03MissingIsNothing() {
        WaveBuoys x = new WaveBuoys();
        x.sheet(1, 0, 2);
        DUE.is("never there", x.drop(0), NOTHING);
        x.drop(1);
        DUE.is("no longer there", x.drop(1), NOTHING);
    }

    static void p03HowManyOfNoneAndOfMost() {
        WaveBuoys x = new WaveBuoys();
        x.sheet(0, 0, 0);
        x.sheet(1, 0, 64);
        DUE.is("none", x.drop(0), 0);
        DUE.is("64", x.drop(1), 64);
    }

    static void p03HowManyWithAllLost() {
        DUE.is("three LOST", Made.sheet(0, "- - -").drop(0), 3);
    }

    static void p03ItIsMissingThen() {
        WaveBuoys x = Made.sheet(1, "1 2 3");
        x.drop(0);
        DUE.is("put", x.put(0, 0, 0), NOTHING);
        DUE.failed("get", x.get(0, 0), NOTHING);
        DUE.is("lose", x.lose(0, 0), NOTHING);
        DUE.is("stands", x.stands(0, 0), NOTHING);
        DUE.is("copy", x.copy(0, 0, 0, 0, 0), NOTHING);
        DUE.is("spikes", x.spikes(0, 0), NOTHING);
        DUE.is("fill", x.fill(0, 0), NOTHING);
        DUE.is("about", x.about(0, 0), NOTHING);
        DUE.is("raise", x.raise(0, 0), NOTHING);
        DUE.is("send", x.send(0), NOTHING);
        DUE.is("count", x.count(0), 0);
    }

    static void p03OthersStay() {
        WaveBuoys x = new WaveBuoys();
        Made.sheet(x, 2, 1, "1 -");
        Made.sheet(x, 3, 1, "2");
        Made.sheet(x, 4, 1, "f3 4");
        x.drop(3);
        DUE.is("the one ahead", Made.words(x, 2), "1 -");
        DUE.is("it", Made.words(x, 3), "missing");
        DUE.is("the one behind", Made.words(x, 4), "f3 4");
    }

    // ---- promise 4: put

    static void p04SheetsFrom0To7() {
        WaveBuoys x = new WaveBuoys();
        x.sheet(0, 0, 1);
        x.sheet(7, 0, 1);
        DUE.is("the least", x.put(0, 0, 1), 1);
        DUE.is("the greatest", x.put(7, 0, 1), 1);
        for (int k : NO_SHEETS) {
            DUE.is("put " + k, x.put(k, 0, 1), BAD);
        }
    }

    static void p04MissingIsNothing() {
        WaveBuoys x = new WaveBuoys();
        x.sheet(0, 0, 1);
        DUE.is("missing", x.put(1, 0, 1), NOTHING);
    }

    /** PLACE: a SAMPLE is none of the SHEET's. */
    static void p04FirstAndLastPlace() {
        WaveBuoys x = Made.sheet(1, "0 0 0");
        DUE.is("first", x.put(0, 0, 5), 1);
        DUE.is("last", x.put(0, 2, 6), 1);
        for (int i : NO_PLACES_OF_THREE) {
            DUE.is("place " + i, x.put(0, i, 7), PLACE);
        }
        DUE.is("all", Made.words(x, 0), "5 0 6");
    }

    static void p04LastPlaceOfMost() {
        WaveBuoys x = new WaveBuoys();
        x.sheet(0, 0, 64);
        DUE.is("the 64th", x.put(0, 63, 1), 1);
        DUE.is("beyond it", x.put(0, 64, 1), PLACE);
    }

    static void p04NoPlaceInNone() {
        WaveBuoys x = new WaveBuoys();
        x.sheet(0, 0, 0);
        DUE.is("place 0 of none", x.put(0, 0, 1), PLACE);
    }

    static void p04PlacesOfALongerOneThatWasAreNone() {
        WaveBuoys x = new WaveBuoys();
        x.sheet(0, 0, 64);
        x.sheet(0, 0, 3);
        DUE.is("place 3", x.put(0, 3, 1), PLACE);
    }

    /** WIDE: a number does not fit. */
    static void p04LeastThatFits() {
        for (int sort = 0; sort < 3; sort++) {
            WaveBuoys x = Made.sheet(sort, "0");
            DUE.is("SORT " + sort, x.put(0, 0, ENDS[sort][0]), 1);
            DUE.is("is kept", x.get(0, 0), ENDS[sort][0]);
        }
    }

    static void p04GreatestThatFits() {
        for (int sort = 0; sort < 3; sort++) {
            WaveBuoys x = Made.sheet(sort, "0");
            DUE.is("SORT " + sort, x.put(0, 0, ENDS[sort][1]), 1);
            DUE.is("is kept", x.get(0, 0), ENDS[sort][1]);
        }
    }

    static void p04FirstBeyondIsWide() {
        for (int sort = 0; sort < 2; sort++) {
            WaveBuoys x = Made.sheet(sort, "9");
            DUE.is("below, SORT " + sort, x.put(0, 0, ENDS[sort][0] - 1), WIDE);
            DUE.is("above, SORT " + sort, x.put(0, 0, ENDS[sort][1] + 1), WIDE);
            DUE.is("far below, SORT " + sort, x.put(0, 0, LEAST), WIDE);
            DUE.is("far above, SORT " + sort, x.put(0, 0, GREATEST), WIDE);
            DUE.is("it stays", x.get(0, 0), 9);
        }
    }

    static void p04WideByTheNewSort() {
        WaveBuoys x = Made.sheet(2, "0");
        x.sheet(0, 0, 1);
        DUE.is("bytes now", x.put(0, 0, 128), WIDE);
        x.sheet(0, 1, 1);
        DUE.is("shorts now", x.put(0, 0, 128), 1);
    }

    static void p04BadAheadOfPlaceAndWide() {
        WaveBuoys x = Made.sheet(0, "0");
        DUE.is("SHEET above", x.put(8, 99, 999), BAD);
        DUE.is("SHEET below", x.put(-1, -1, 999), BAD);
    }

    static void p04NothingAheadOfPlaceAndWide() {
        DUE.is("missing", new WaveBuoys().put(0, -1, GREATEST), NOTHING);
    }

    static void p04PlaceAheadOfWide() {
        WaveBuoys x = Made.sheet(0, "0 0");
        DUE.is("behind the last", x.put(0, 2, 128), PLACE);
        DUE.is("ahead of the first", x.put(0, -1, 128), PLACE);
    }

    static void p04ALostOneIsTold() {
        WaveBuoys x = Made.sheet(0, "- -");
        DUE.is("the first", x.put(0, 0, 0), 1);
        DUE.is("the SHEET", Made.words(x, 0), "0 -");
    }

    static void p04AFilledOneIsTold() {
        WaveBuoys x = Made.sheet(0, "f4 f4");
        DUE.is("with the number that it has", x.put(0, 1, 4), 1);
        DUE.is("the SHEET", Made.words(x, 0), "f4 4");
    }

    static void p04RefusedLeavesTheSheet() {
        WaveBuoys x = Made.sheet(0, "- f2 3");
        x.put(0, 0, 128);
        x.put(0, 1, -129);
        x.put(0, 3, 1);
        x.put(8, 0, 1);
        DUE.is("the SHEET", Made.words(x, 0), "- f2 3");
    }

    // ---- promise 5: get

    static void p05SheetsFrom0To7() {
        WaveBuoys x = new WaveBuoys();
        Made.sheet(x, 0, 0, "4");
        Made.sheet(x, 7, 0, "5");
        DUE.is("the least", x.get(0, 0), 4);
        DUE.is("the greatest", x.get(7, 0), 5);
        for (int k : NO_SHEETS) {
            DUE.failed("get " + k, x.get(k, 0), BAD);
        }
    }

    static void p05MissingIsNothing() {
        DUE.failed("missing", Made.sheet(0, "4").get(1, 0), NOTHING);
    }

    static void p05FirstAndLastPlace() {
        WaveBuoys x = Made.sheet(2, "7 8 9");
        DUE.is("first", x.get(0, 0), 7);
        DUE.is("last", x.get(0, 2), 9);
        for (int i : NO_PLACES_OF_THREE) {
            DUE.failed("place " + i, x.get(0, i), PLACE);
        }
        x.sheet(0, 0, 0);
        DUE.failed("place 0 of none", x.get(0, 0), PLACE);
    }

    static void p05LostIsNoNumber() {
        WaveBuoys x = Made.sheet(2, "- 8 -");
        DUE.failed("first", x.get(0, 0), LOST);
        DUE.is("between", x.get(0, 1), 8);
        DUE.failed("last", x.get(0, 2), LOST);
    }

    static void p05NumbersThatAreAsFailures() {
        WaveBuoys x = Made.sheet(2, "-2 -10 -2147483648 2147483647");
        DUE.is("-2", x.get(0, 0), -2);
        DUE.is("-10", x.get(0, 1), -10);
        DUE.is("the least", x.get(0, 2), LEAST);
        DUE.is("the greatest", x.get(0, 3), GREATEST);
    }

    static void p05BadAheadOfPlace() {
        DUE.failed("SHEET 8, place -1", Made.sheet(0, "4").get(8, -1), BAD);
    }

    static void p05NothingAheadOfPlace() {
        DUE.failed("missing, place 64", Made.sheet(0, "4").get(1, 64), NOTHING);
    }

    static void p05AFilledOneHasItsNumber() {
        DUE.is("FILLED", Made.sheet(0, "f-4").get(0, 0), -4);
    }

    // ---- promise 6: lose

    static void p06SheetsFrom0To7() {
        WaveBuoys x = new WaveBuoys();
        x.sheet(0, 0, 1);
        x.sheet(7, 0, 1);
        DUE.is("the least", x.lose(0, 0), 1);
        DUE.is("the greatest", x.lose(7, 0), 1);
        for (int k : NO_SHEETS) {
            DUE.is("lose " + k, x.lose(k, 0), BAD);
        }
    }

    static void p06MissingIsNothing() {
        DUE.is("missing", Made.sheet(0, "4").lose(1, 0), NOTHING);
    }

    static void p06FirstAndLastPlace() {
        WaveBuoys x = Made.sheet(1, "1 2 3");
        for (int i : NO_PLACES_OF_THREE) {
            DUE.is("place " + i, x.lose(0, i), PLACE);
        }
        DUE.is("none is LOST", Made.words(x, 0), "1 2 3");
        DUE.is("first", x.lose(0, 0), 1);
        DUE.is("last", x.lose(0, 2), 1);
        DUE.is("both are LOST", Made.words(x, 0), "- 2 -");
        x.sheet(0, 0, 0);
        DUE.is("place 0 of none", x.lose(0, 0), PLACE);
    }

    /** 0: it was. */
    static void p06OneThatWasLost() {
        WaveBuoys x = Made.sheet(1, "- 2");
        DUE.is("it was", x.lose(0, 0), 0);
        DUE.is("it stays so", Made.words(x, 0), "- 2");
    }

    static void p06OneThatWasFilled() {
        WaveBuoys x = Made.sheet(1, "f1 2");
        DUE.is("it was FILLED", x.lose(0, 0), 1);
        DUE.is("it is LOST", Made.words(x, 0), "- 2");
    }

    static void p06AllOfThem() {
        WaveBuoys x = new WaveBuoys();
        x.sheet(0, 0, 64);
        for (int i = 0; i < 64; i++) {
            DUE.is("SAMPLE " + i, x.lose(0, i), 1);
        }
        DUE.is("how many", x.about(0, 4), 64);
    }

    static void p06BadAheadOfPlace() {
        DUE.is("SHEET -1, place 64", Made.sheet(0, "4").lose(-1, 64), BAD);
    }

    static void p06NothingAheadOfPlace() {
        DUE.is("missing, place -1", Made.sheet(0, "4").lose(1, -1), NOTHING);
    }

    // ---- promise 7: stands

    static void p07SheetsFrom0To7() {
        WaveBuoys x = new WaveBuoys();
        x.sheet(0, 0, 1);
        x.sheet(7, 0, 1);
        DUE.is("the least", x.stands(0, 0), 1);
        DUE.is("the greatest", x.stands(7, 0), 1);
        for (int k : NO_SHEETS) {
            DUE.is("stands " + k, x.stands(k, 0), BAD);
        }
    }

    static void p07MissingIsNothing() {
        DUE.is("missing", Made.sheet(0, "4").stands(1, 0), NOTHING);
    }

    static void p07FirstAndLastPlace() {
        WaveBuoys x = Made.sheet(1, "- 2 f3");
        DUE.is("first", x.stands(0, 0), 0);
        DUE.is("between", x.stands(0, 1), 1);
        DUE.is("last", x.stands(0, 2), 2);
        for (int i : NO_PLACES_OF_THREE) {
            DUE.is("place " + i, x.stands(0, i), PLACE);
        }
        x.sheet(0, 0, 0);
        DUE.is("place 0 of none", x.stands(0, 0), PLACE);
    }

    static void p07BadAheadOfPlace() {
        DUE.is("SHEET 8, place 1", Made.sheet(0, "4").stands(8, 1), BAD);
    }

    static void p07NothingAheadOfPlace() {
        DUE.is("missing, place 1", Made.sheet(0, "4").stands(1, 1), NOTHING);
    }

    // ---- promise 8: copy

    private static WaveBuoys two() {
        WaveBuoys x = Made.sheet(1, "10 - f12 13");
        Made.sheet(x, 1, 1, "20 21");
        return x;
    }

    private static void dueTwo(WaveBuoys x, String first, String second) {
        DUE.is("the first SHEET", Made.words(x, 0), first);
        DUE.is("the second SHEET", Made.words(x, 1), second);
    }

    static void p08SheetsFrom0To7() {
        WaveBuoys x = new WaveBuoys();
        Made.sheet(x, 0, 0, "4");
        Made.sheet(x, 7, 0, "5");
        for (int k : NO_SHEETS) {
            DUE.is("from " + k, x.copy(k, 0, 0, 0, 1), BAD);
            DUE.is("to " + k, x.copy(0, 0, k, 0, 1), BAD);
        }
        DUE.is("from the greatest to the least", x.copy(7, 0, 0, 0, 1), 1);
        DUE.is("the least", Made.words(x, 0), "5");
        x.put(0, 0, 6);
        DUE.is("from the least to the greatest", x.copy(0, 0, 7, 0, 1), 1);
        DUE.is("the greatest", Made.words(x, 7), "6");
    }

    static void p08MissingIsNothing() {
        WaveBuoys x = two();
        DUE.is("from", x.copy(2, 0, 0, 0, 1), NOTHING);
        DUE.is("to", x.copy(0, 0, 2, 0, 1), NOTHING);
        DUE.is("both", x.copy(2, 0, 3, 0, 1), NOTHING);
        DUE.is("none of itself", x.copy(2, 0, 2, 0, 0), NOTHING);
        DUE.is("to is still missing", Made.words(x, 2), "missing");
    }

    static void p08UnlikeSorts() {
        for (int from = 0; from < 3; from++) {
            for (int to = 0; to < 3; to++) {
                WaveBuoys x = new WaveBuoys();
                x.sheet(0, from, 1);
                x.sheet(1, to, 1);
                DUE.is("SORT " + from + " to SORT " + to, x.copy(0, 0, 1, 0, 1), from == to ? 1 : UNLIKE);
                DUE.is("none of them", x.copy(0, 0, 1, 0, 0), from == to ? 0 : UNLIKE);
            }
        }
    }

    static void p08BelowNoneIsSize() {
        WaveBuoys x = two();
        DUE.is("-1", x.copy(0, 0, 1, 0, -1), SIZE);
        DUE.is("the least", x.copy(0, 0, 1, 0, LEAST), SIZE);
        DUE.is("-1 of itself", x.copy(0, 1, 0, 1, -1), SIZE);
    }

    static void p08None() {
        WaveBuoys x = two();
        DUE.is("at the beginning", x.copy(0, 0, 1, 0, 0), 0);
        DUE.is("at the end of both", x.copy(0, 4, 1, 2, 0), 0);
        dueTwo(x, "10 - f12 13", "20 21");
    }

    static void p08NoneOfNone() {
        WaveBuoys x = new WaveBuoys();
        x.sheet(0, 2, 0);
        x.sheet(1, 2, 0);
        DUE.is("none", x.copy(0, 0, 1, 0, 0), 0);
        DUE.is("one", x.copy(0, 0, 1, 0, 1), PLACE);
        DUE.is("place 1", x.copy(0, 1, 1, 0, 0), PLACE);
    }

    /** PLACE (with n 0, too, if a or b is above how many there are). */
    static void p08NoneAboveHowManyThereAre() {
        WaveBuoys x = two();
        DUE.is("a above", x.copy(0, 5, 1, 0, 0), PLACE);
        DUE.is("b above", x.copy(0, 0, 1, 3, 0), PLACE);
        DUE.is("a far above", x.copy(0, GREATEST, 1, 0, 0), PLACE);
        DUE.is("b far above", x.copy(0, 0, 1, GREATEST, 0), PLACE);
    }

    static void p08PlacesBelow() {
        WaveBuoys x = two();
        int[] ns = {0, 1, 2};
        for (int n : ns) {
            DUE.is("a -1, n " + n, x.copy(0, -1, 1, 0, n), PLACE);
            DUE.is("b -1, n " + n, x.copy(0, 0, 1, -1, n), PLACE);
            DUE.is("a the least, n " + n, x.copy(0, LEAST, 1, 0, n), PLACE);
            DUE.is("b the least, n " + n, x.copy(0, 0, 1, LEAST, n), PLACE);
        }
        dueTwo(x, "10 - f12 13", "20 21");
    }

    static void p08TheLastThatAreThere() {
        WaveBuoys x = two();
        DUE.is("the last two", x.copy(0, 2, 1, 0, 2), 2);
        dueTwo(x, "10 - f12 13", "f12 13");
        DUE.is("the last one to the last", x.copy(0, 3, 1, 1, 1), 1);
        dueTwo(x, "10 - f12 13", "f12 13");
        DUE.is("to the last two", x.copy(1, 0, 0, 2, 2), 2);
        dueTwo(x, "10 - f12 13", "f12 13");
    }

    static void p08OneBeyondTheEnd() {
        WaveBuoys x = two();
        DUE.is("of from", x.copy(0, 3, 1, 0, 2), PLACE);
        DUE.is("of to", x.copy(0, 0, 1, 1, 2), PLACE);
        DUE.is("just behind from", x.copy(0, 4, 1, 0, 1), PLACE);
        DUE.is("just behind to", x.copy(0, 0, 1, 2, 1), PLACE);
        DUE.is("one more than there are", x.copy(1, 0, 0, 0, 3), PLACE);
        dueTwo(x, "10 - f12 13", "20 21");
    }

    /** Sums of place and n that would wrap around. */
    static void p08FarBeyondTheEnd() {
        WaveBuoys x = two();
        DUE.is("n the greatest", x.copy(0, 0, 1, 0, GREATEST), PLACE);
        DUE.is("a 1, n the greatest", x.copy(0, 1, 1, 0, GREATEST), PLACE);
        DUE.is("b 1, n the greatest", x.copy(0, 0, 1, 1, GREATEST), PLACE);
        DUE.is("all the greatest", x.copy(0, GREATEST, 1, GREATEST, GREATEST), PLACE);
        DUE.is("a the least, n the greatest", x.copy(0, LEAST, 1, LEAST, GREATEST), PLACE);
    }

    static void p08AllOf64() {
        WaveBuoys x = new WaveBuoys();
        x.sheet(0, 0, 64);
        x.sheet(1, 0, 64);
        x.put(0, 0, 1);
        x.put(0, 63, 2);
        x.lose(0, 31);
        DUE.is("all", x.copy(0, 0, 1, 0, 64), 64);
        DUE.is("all are alike", Made.words(x, 1), Made.words(x, 0));
        DUE.is("65", x.copy(0, 0, 1, 0, 65), PLACE);
    }

    /** As they were ahead of the call. */
    static void p08ItselfBehindItself() {
        WaveBuoys x = Made.sheet(1, "1 - f3 4 5");
        DUE.is("one place on", x.copy(0, 0, 0, 1, 4), 4);
        DUE.is("the SHEET", Made.words(x, 0), "1 1 - f3 4");
    }

    static void p08ItselfAheadOfItself() {
        WaveBuoys x = Made.sheet(1, "1 - f3 4 5");
        DUE.is("one place back", x.copy(0, 1, 0, 0, 4), 4);
        DUE.is("the SHEET", Made.words(x, 0), "- f3 4 5 5");
    }

    static void p08ItselfWhereItIs() {
        WaveBuoys x = Made.sheet(1, "1 - f3 4 5");
        DUE.is("all", x.copy(0, 0, 0, 0, 5), 5);
        DUE.is("the SHEET", Made.words(x, 0), "1 - f3 4 5");
    }

    /** As they stand. */
    static void p08EachOnEach() {
        WaveBuoys x = Made.sheet(1, "1 1 1 - - - f3 f3 f3");
        Made.sheet(x, 1, 1, "4 - f5 4 - f5 4 - f5");
        DUE.is("nine", x.copy(1, 0, 0, 0, 9), 9);
        dueTwo(x, "4 - f5 4 - f5 4 - f5", "4 - f5 4 - f5 4 - f5");
    }

    static void p08BadAheadOfNothing() {
        WaveBuoys x = two();
        DUE.is("from 8, to missing", x.copy(8, 0, 3, 0, 1), BAD);
        DUE.is("from missing, to 8", x.copy(3, 0, 8, 0, 1), BAD);
    }

    static void p08BadAheadOfSizeAndPlace() {
        WaveBuoys x = two();
        DUE.is("from -1", x.copy(-1, 0, 0, 0, -1), BAD);
        DUE.is("to -1", x.copy(0, -1, -1, -1, -1), BAD);
    }

    static void p08NothingAheadOfSizeAndPlace() {
        WaveBuoys x = two();
        DUE.is("from missing", x.copy(3, 0, 0, 0, -1), NOTHING);
        DUE.is("to missing", x.copy(0, 99, 3, 0, 1), NOTHING);
    }

    static void p08UnlikeAheadOfSizeAndPlace() {
        WaveBuoys x = two();
        x.sheet(2, 0, 1);
        DUE.is("n -1", x.copy(0, 0, 2, 0, -1), UNLIKE);
        DUE.is("a above", x.copy(0, 5, 2, 0, 1), UNLIKE);
        DUE.is("b above", x.copy(2, 0, 0, 5, 0), UNLIKE);
    }

    static void p08SizeAheadOfPlace() {
        WaveBuoys x = two();
        DUE.is("a above", x.copy(0, 5, 1, 0, -1), SIZE);
        DUE.is("a below", x.copy(0, -1, 1, 0, -1), SIZE);
        DUE.is("b above", x.copy(0, 0, 1, 3, -1), SIZE);
        DUE.is("b below", x.copy(0, 0, 1, -1, LEAST), SIZE);
    }

    // ---- promise 9: spikes

    static void p09SheetsFrom0To7() {
        WaveBuoys x = new WaveBuoys();
        Made.sheet(x, 0, 0, "0 9 0");
        Made.sheet(x, 7, 0, "0 9 0");
        for (int k : NO_SHEETS) {
            DUE.is("spikes " + k, x.spikes(k, 0), BAD);
        }
        DUE.is("the least", x.spikes(0, 0), 1);
        DUE.is("the greatest", x.spikes(7, 0), 1);
    }

    static void p09MissingIsNothing() {
        DUE.is("missing", Made.sheet(0, "4").spikes(1, 0), NOTHING);
    }

    /** d (0 or more). */
    static void p09ByLessThan0IsBad() {
        WaveBuoys x = Made.sheet(0, "0 9 0");
        DUE.is("-1", x.spikes(0, -1), BAD);
        DUE.is("the least", x.spikes(0, LEAST), BAD);
        DUE.is("it stays", Made.words(x, 0), "0 9 0");
        DUE.is("0", x.spikes(0, 0), 1);
    }

    static void p09BadAheadOfNothing() {
        DUE.is("missing, by -1", new WaveBuoys().spikes(0, -1), BAD);
    }

    /** Above 2 d. */
    static void p09JustTwiceDIsNone() {
        WaveBuoys x = Made.sheet(1, "0 5 0");
        DUE.is("10 is not above 10", x.spikes(0, 5), 0);
        x = Made.sheet(1, "0 -5 0");
        DUE.is("-10 is not above 10 in size", x.spikes(0, 5), 0);
    }

    static void p09OneAboveTwiceDIsOne() {
        WaveBuoys x = Made.sheet(1, "-1 5 0");
        DUE.is("11 is above 10", x.spikes(0, 5), 1);
        DUE.is("the SHEET", Made.words(x, 0), "-1 - 0");
        x = Made.sheet(1, "1 -5 0");
        DUE.is("-11 is above 10 in size", x.spikes(0, 5), 1);
        DUE.is("the other SHEET", Made.words(x, 0), "1 - 0");
    }

    static void p09BySizeNoughtAStraightLineHasNone() {
        DUE.is("straight", Made.sheet(1, "-9 -6 -3 0 3 6").spikes(0, 0), 0);
        DUE.is("bent by 1", Made.sheet(1, "-9 -6 -3 0 3 7").spikes(0, 0), 1);
    }

    /** With one ahead and one behind. */
    static void p09FirstAndLastAreNone() {
        WaveBuoys x = Made.sheet(1, "99 0 0 99");
        DUE.is("by 50", x.spikes(0, 50), 0);
        DUE.is("by 49", x.spikes(0, 49), 2);
        DUE.is("the SHEET", Made.words(x, 0), "99 - - 99");
    }

    static void p09TooFewForOne() {
        DUE.is("none", Made.sheet(1, "").spikes(0, 0), 0);
        DUE.is("one", Made.sheet(1, "99").spikes(0, 0), 0);
        DUE.is("two", Made.sheet(1, "99 -99").spikes(0, 0), 0);
        DUE.is("three", Made.sheet(1, "99 -99 99").spikes(0, 0), 1);
    }

    static void p09ThoseOfALongerOneThatWasAreNoNeighbours() {
        WaveBuoys x = Made.sheet(1, "0 0 0");
        x.sheet(0, 1, 2);
        x.put(0, 1, 99);
        DUE.is("the last of two", x.spikes(0, 0), 0);
    }

    /** That are not LOST. */
    static void p09BesideALostOneIsNone() {
        DUE.is("ahead", Made.sheet(1, "- 99 0").spikes(0, 0), 0);
        DUE.is("behind", Made.sheet(1, "0 99 -").spikes(0, 0), 0);
        DUE.is("both", Made.sheet(1, "- 99 -").spikes(0, 0), 0);
    }

    static void p09ALostOneIsNone() {
        WaveBuoys x = Made.sheet(1, "99 - 99");
        DUE.is("LOST already", x.spikes(0, 0), 0);
        DUE.is("all LOST", Made.sheet(1, "- - - -").spikes(0, 0), 0);
    }

    static void p09ALostOneTwoPlacesOffIsFine() {
        WaveBuoys x = Made.sheet(1, "- 0 99 0 -");
        DUE.is("between", x.spikes(0, 9), 1);
        DUE.is("the SHEET", Made.words(x, 0), "- 0 - 0 -");
    }

    static void p09FilledOnesAreLikeTold() {
        WaveBuoys x = Made.sheet(1, "f0 f99 f0 f0");
        DUE.is("FILLED", x.spikes(0, 50), 1);
        DUE.is("the SHEET", Made.words(x, 0), "f0 - f0 f0");
    }

    /** All as it was ahead of the call. */
    static void p09AllAsItWasAhead() {
        WaveBuoys x = Made.sheet(1, "0 50 0 50 0 50 0");
        DUE.is("five", x.spikes(0, 40), 5);
        DUE.is("the SHEET", Made.words(x, 0), "0 - - - - - 0");
    }

    static void p09AllButTheEndsOf64() {
        WaveBuoys x = new WaveBuoys();
        x.sheet(0, 0, 64);
        for (int i = 0; i < 64; i += 2) {
            x.put(0, i, 100);
        }
        DUE.is("62", x.spikes(0, 99), 62);
        DUE.is("the first stands", x.stands(0, 0), 1);
        DUE.is("the last stands", x.stands(0, 63), 1);
    }

    /** Nothing wraps around at the greatest numbers. */
    static void p09TheGreatestSizes() {
        DUE.is("up", Made.sheet(2, "-2147483648 2147483647 -2147483648").spikes(0, GREATEST), 1);
        DUE.is("down", Made.sheet(2, "2147483647 -2147483648 2147483647").spikes(0, GREATEST), 1);
        DUE.is("just 2 d", Made.sheet(2, "0 2147483647 0").spikes(0, GREATEST), 0);
        DUE.is("one above 2 d", Made.sheet(2, "0 2147483647 -1").spikes(0, GREATEST), 1);
        DUE.is("just -2 d", Made.sheet(2, "0 -2147483647 0").spikes(0, GREATEST), 0);
        DUE.is("two beyond -2 d", Made.sheet(2, "0 -2147483648 0").spikes(0, GREATEST), 1);
    }

    // ---- promise 10: fill

    static void p10SheetsFrom0To7() {
        WaveBuoys x = new WaveBuoys();
        Made.sheet(x, 0, 0, "0 - 2");
        Made.sheet(x, 7, 0, "0 - 4");
        for (int k : NO_SHEETS) {
            DUE.is("fill " + k, x.fill(k, 1), BAD);
        }
        DUE.is("the least", x.fill(0, 1), 1);
        DUE.is("the greatest", x.fill(7, 1), 1);
        DUE.is("SHEET 0", Made.words(x, 0), "0 f1 2");
        DUE.is("SHEET 7", Made.words(x, 7), "0 f2 4");
    }

    static void p10MissingIsNothing() {
        DUE.is("missing", Made.sheet(0, "4").fill(1, 1), NOTHING);
    }

    /** m (0 .. 64). */
    static void p10MostFrom0To64() {
        WaveBuoys x = Made.sheet(0, "0 - 2");
        int[] bad = {-1, 65, LEAST, GREATEST};
        for (int m : bad) {
            DUE.is("m " + m, x.fill(0, m), BAD);
        }
        DUE.is("m 0", x.fill(0, 0), 0);
        DUE.is("the SHEET", Made.words(x, 0), "0 - 2");
        DUE.is("m 64", x.fill(0, 64), 1);
    }

    static void p10BadAheadOfNothing() {
        DUE.is("missing, m 65", new WaveBuoys().fill(0, 65), BAD);
        DUE.is("missing, m -1", new WaveBuoys().fill(7, -1), BAD);
    }

    /** Of no more than m. */
    static void p10JustAsLongAndOneLonger() {
        WaveBuoys x = Made.sheet(0, "0 - 2 - - 8 - - - 0 - 4");
        DUE.is("m 2", x.fill(0, 2), 4);
        DUE.is("the SHEET", Made.words(x, 0), "0 f1 2 f4 f6 8 - - - 0 f2 4");
        DUE.is("m 3", x.fill(0, 3), 3);
        DUE.is("all of it", Made.words(x, 0), "0 f1 2 f4 f6 8 f6 f4 f2 0 f2 4");
    }

    static void p10TheLongestThatCanBe() {
        WaveBuoys x = new WaveBuoys();
        x.sheet(0, 1, 64);
        x.put(0, 63, 630);
        for (int i = 1; i < 63; i++) {
            x.lose(0, i);
        }
        DUE.is("m 61", x.fill(0, 61), 0);
        DUE.is("m 62", x.fill(0, 62), 62);
        for (int i = 1; i < 63; i++) {
            DUE.is("number " + i, x.get(0, i), 10 * i);
            DUE.is("how " + i + " stands", x.stands(0, i), 2);
        }
    }

    /** INNER ones have a SAMPLE ahead and one behind. */
    static void p10AtTheBeginningIsNoInnerOne() {
        WaveBuoys x = Made.sheet(0, "- - 5 6");
        DUE.is("m 64", x.fill(0, 64), 0);
        DUE.is("the SHEET", Made.words(x, 0), "- - 5 6");
    }

    static void p10AtTheEndIsNoInnerOne() {
        WaveBuoys x = Made.sheet(0, "5 6 -");
        DUE.is("m 64", x.fill(0, 64), 0);
        DUE.is("the SHEET", Made.words(x, 0), "5 6 -");
    }

    static void p10AllLostIsNoInnerOne() {
        WaveBuoys x = Made.sheet(0, "- - -");
        DUE.is("m 64", x.fill(0, 64), 0);
        DUE.is("the SHEET", Made.words(x, 0), "- - -");
        DUE.is("one SAMPLE", Made.sheet(0, "-").fill(0, 64), 0);
    }

    static void p10NoneIsLost() {
        WaveBuoys x = Made.sheet(0, "1 f2 3");
        DUE.is("m 64", x.fill(0, 64), 0);
        DUE.is("the SHEET", Made.words(x, 0), "1 f2 3");
        DUE.is("no SAMPLES", Made.sheet(0, "").fill(0, 64), 0);
    }

    static void p10WhatAShorterOneHasBehindIsNone() {
        WaveBuoys x = Made.sheet(0, "1 - 3");
        x.sheet(0, 0, 2);
        x.lose(0, 1);
        DUE.is("at the end now", x.fill(0, 64), 0);
    }

    /** Cut toward 0: what j steps add, up and down. */
    static void p10CutTowardNought() {
        WaveBuoys x = Made.sheet(0, "0 - - 5 - - 0");
        DUE.is("up and down", x.fill(0, 2), 4);
        DUE.is("the SHEET", Made.words(x, 0), "0 f1 f3 5 f4 f2 0");
        x = Made.sheet(0, "0 - - -5 - - 0");
        DUE.is("down and up", x.fill(0, 2), 4);
        DUE.is("the other SHEET", Made.words(x, 0), "0 f-1 f-3 -5 f-4 f-2 0");
    }

    static void p10NothingRisesFromEqualEnds() {
        WaveBuoys x = Made.sheet(0, "-7 - - -7");
        x.fill(0, 2);
        DUE.is("the SHEET", Made.words(x, 0), "-7 f-7 f-7 -7");
    }

    /** Nothing wraps around at the greatest rise. */
    static void p10TheGreatestRise() {
        WaveBuoys x = Made.sheet(2, "-2147483648 - - - 2147483647");
        DUE.is("up", x.fill(0, 3), 3);
        DUE.is("the SHEET", Made.words(x, 0), "-2147483648 f-1073741825 f-1 f1073741823 2147483647");
        x = Made.sheet(2, "2147483647 - -2147483648");
        DUE.is("down", x.fill(0, 1), 1);
        DUE.is("the other SHEET", Made.words(x, 0), "2147483647 f0 -2147483648");
    }

    static void p10BytesStayBytes() {
        WaveBuoys x = Made.sheet(0, "127 - -128 - - 127");
        x.fill(0, 2);
        DUE.is("the SHEET", Made.words(x, 0), "127 f0 -128 f-43 f42 127");
    }

    static void p10FilledOnesAreEndsToo() {
        WaveBuoys x = Made.sheet(0, "f0 - f4 - 0");
        DUE.is("two", x.fill(0, 1), 2);
        DUE.is("the SHEET", Made.words(x, 0), "f0 f2 f4 f2 0");
    }

    // ---- promise 11: about

    private static void dueAbout(String words, int... facts) {
        WaveBuoys x = Made.sheet(1, words);
        for (int what = 0; what < 6; what++) {
            DUE.is("about " + what + " of \"" + words + "\"", x.about(0, what), facts[what]);
        }
    }

    static void p11SheetsFrom0To7() {
        WaveBuoys x = new WaveBuoys();
        x.sheet(0, 0, 3);
        x.sheet(7, 0, 4);
        DUE.is("the least", x.about(0, 1), 3);
        DUE.is("the greatest", x.about(7, 1), 4);
        for (int k : NO_SHEETS) {
            DUE.is("about " + k, x.about(k, 1), BAD);
        }
    }

    static void p11MissingIsNothing() {
        DUE.is("missing", Made.sheet(0, "4").about(1, 1), NOTHING);
    }

    static void p11WhatFrom0To5() {
        WaveBuoys x = Made.sheet(2, "1 f2");
        DUE.is("0", x.about(0, 0), 2);
        DUE.is("5", x.about(0, 5), 1);
        int[] bad = {-1, 6, LEAST, GREATEST};
        for (int what : bad) {
            DUE.is("what " + what, x.about(0, what), BAD);
        }
    }

    static void p11BadAheadOfNothing() {
        DUE.is("missing, what 6", new WaveBuoys().about(0, 6), BAD);
        DUE.is("missing, what -1", new WaveBuoys().about(7, -1), BAD);
    }

    static void p11NoSamples() {
        dueAbout("", 1, 0, 0, 0, 0, 0);
    }

    static void p11NoneIsLost() {
        dueAbout("4 5", 1, 2, 0, 0, 0, 0);
    }

    static void p11AllAreLost() {
        dueAbout("- - -", 1, 3, 1, 3, 3, 0);
        dueAbout(Made.times(64, "-"), 1, 64, 1, 64, 64, 0);
        dueAbout("-", 1, 1, 1, 1, 1, 0);
    }

    static void p11AllAreFilled() {
        dueAbout("f1 f2", 1, 2, 0, 0, 0, 2);
    }

    static void p11AsManyGapsAsCanBe() {
        dueAbout(Made.times(32, "- 1"), 1, 64, 32, 1, 32, 0);
        dueAbout(Made.times(32, "1 -"), 1, 64, 32, 1, 32, 0);
    }

    /** GAPS: rows of LOST SAMPLES, as long as may be, those at the ends, too. */
    static void p11GapsAtTheEnds() {
        dueAbout("- 1 -", 1, 3, 2, 1, 2, 0);
        dueAbout("- - - 1 - 2 - -", 1, 8, 3, 3, 6, 0);
        dueAbout("- 1 - 2 - - -", 1, 7, 3, 3, 5, 0);
    }

    static void p11AFilledOnePartsGaps() {
        dueAbout("- f1 - -", 1, 4, 2, 2, 3, 1);
    }

    static void p11ThoseOfALongerOneThatWasAreNone() {
        WaveBuoys x = Made.sheet(1, "- - f3 - -");
        x.sheet(0, 1, 2);
        x.lose(0, 1);
        int[] facts = {1, 2, 1, 1, 1, 0};
        for (int what = 0; what < 6; what++) {
            DUE.is("about " + what, x.about(0, what), facts[what]);
        }
    }
}
