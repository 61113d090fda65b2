/** Promises 24 to 32: a test of its own for each sentence that names a boundary case; each name begins
 *  with the number of its promise, and the sentence stands above it where the name does not tell it. */
public final class PackEdgesTest {
    private static final int LEAST = Integer.MIN_VALUE;
    private static final int GREATEST = Integer.MAX_VALUE;
    private static final int BAD = WaveBuoys.BAD;
    private static final int NO = WaveBuoys.NO;
    private static final int NOTHING = WaveBuoys.NOTHING;
    private static final int[] NO_SHEETS = {-1, 8, LEAST, GREATEST};
    private static final int MOST_WAY = 1000000;
    private static final Due DUE = new Due();

    public static void main(String[] args) throws Exception {
        DUE.runEach(PackEdgesTest.class, 24, 32);
        DUE.end();
    }

    /** Words of n SAMPLES that are told, LOST and FILLED by turns, from the least to the greatest. */
    private static String[] mixed(int n) {
        String[] words = new String[n];
        for (int i = 0; i < n; i++) {
            int v = i % 9 == 1 ? LEAST : i % 9 == 5 ? GREATEST : i % 2 == 0 ? 1000 * i : -70 * i;
            words[i] = i % 5 == 2 ? "-" : i % 8 == 6 ? "f" + v : "" + v;
        }
        return words;
    }

    /** A new object whose SHEET 0 is of mixed words, and was SENT. */
    private static WaveBuoys sent(int n) {
        WaveBuoys x = Made.sheet(2, String.join(" ", mixed(n)));
        x.send(0);
        return x;
    }

    /** RECEIVED to SHEET 1: the mixed words, but LOST from .. to, from .. to, .. of them. */
    private static void dueReceived(String what, WaveBuoys x, int n, int... gone) {
        String[] words = mixed(n);
        for (int g = 0; g < gone.length; g += 2) {
            for (int i = gone[g]; i <= gone[g + 1]; i++) {
                words[i] = "-";
            }
        }
        int lost = 0;
        for (String word : words) {
            lost += word.equals("-") ? 1 : 0;
        }
        DUE.is("receive, " + what, x.receive(1), lost);
        DUE.is(what, Made.words(x, 1), String.join(" ", words));
        DUE.is("SORT of " + what, x.about(1, 0), 2);
    }

    private static void miss(WaveBuoys x, int... ps) {
        for (int p : ps) {
            x.miss(p);
        }
    }

    // ---- promise 24: send

    static void p24SheetsFrom0To7() {
        WaveBuoys x = new WaveBuoys();
        x.sheet(0, 0, 1);
        x.sheet(7, 0, 9);
        for (int k : NO_SHEETS) {
            DUE.is("send " + k, x.send(k), BAD);
        }
        DUE.is("the least", x.send(0), 2);
        DUE.is("the greatest", x.send(7), 3);
    }

    static void p24MissingIsNothing() {
        DUE.is("missing", sent(3).send(1), NOTHING);
    }

    static void p24NoneHasNoPacks() {
        WaveBuoys x = Made.sheet(0, "");
        DUE.is("none", x.send(0), 0);
        DUE.is("count", x.count(1), 0);
    }

    private static void duePacks(int n, int packs) {
        WaveBuoys x = new WaveBuoys();
        x.sheet(0, 0, n);
        DUE.is("PACKS of " + n, x.send(0), packs);
        DUE.is("count of " + n, x.count(1), packs);
        DUE.is("the last of " + n, x.miss(packs - 1), 1);
        DUE.is("beyond the last of " + n, x.miss(packs), BAD);
    }

    /** Each 8 SAMPLES are one, the last one of fewer, perhaps. */
    static void p24OneEightAndNine() {
        duePacks(1, 2);
        duePacks(7, 2);
        duePacks(8, 2);
        duePacks(9, 3);
        duePacks(16, 3);
        duePacks(17, 4);
    }

    /** One more (a SUM) for each four of these. */
    static void p24FourPacksAndFive() {
        duePacks(24, 4);
        duePacks(25, 5);
        duePacks(32, 5);
        duePacks(33, 7);
        duePacks(40, 7);
    }

    static void p24SixtyFourHaveTen() {
        duePacks(56, 9);
        duePacks(57, 10);
        duePacks(63, 10);
        duePacks(64, 10);
    }

    static void p24LostOnesAreSentToo() {
        WaveBuoys x = Made.sheet(0, "- - -");
        DUE.is("all LOST", x.send(0), 2);
        DUE.is("receive", x.receive(1), 3);
        DUE.is("RECEIVED", Made.words(x, 1), "- - -");
    }

    /** What was goes. */
    static void p24WhatWasGoes() {
        WaveBuoys x = sent(64);
        miss(x, 0, 1, 8, 9);
        x.sheet(2, 0, 9);
        DUE.is("fewer", x.send(2), 3);
        DUE.is("none is LOST", x.count(2), 0);
        DUE.is("PACK 0", x.miss(0), 1);
        DUE.is("PACK 3", x.miss(3), BAD);
        x.send(0);
        DUE.is("none is LOST again", x.count(2), 0);
        DUE.is("more", x.count(1), 10);
    }

    static void p24WhatWasGoesForNone() {
        WaveBuoys x = sent(64);
        miss(x, 0, 9);
        x.sheet(2, 0, 0);
        x.send(2);
        DUE.is("PACKS", x.count(1), 0);
        DUE.is("LOST ones", x.count(2), 0);
        DUE.is("receive", x.receive(0), 0);
        DUE.is("RECEIVED", x.about(0, 1), 0);
    }

    static void p24RefusedLeavesWhatWasSent() {
        WaveBuoys x = sent(20);
        miss(x, 0, 1);
        DUE.is("SHEET 8", x.send(8), BAD);
        DUE.is("missing", x.send(5), NOTHING);
        DUE.is("PACKS", x.count(1), 4);
        DUE.is("LOST ones", x.count(2), 2);
        dueReceived("as before", x, 20, 0, 15);
    }

    static void p24TheSheetStays() {
        DUE.is("it", Made.words(sent(10), 0), String.join(" ", mixed(10)));
    }

    // ---- promise 25: miss

    static void p25FirstAndLastPack() {
        WaveBuoys x = sent(64);
        DUE.is("the first", x.miss(0), 1);
        DUE.is("the last", x.miss(9), 1);
        int[] none = {-1, 10, LEAST, GREATEST};
        for (int p : none) {
            DUE.is("PACK " + p, x.miss(p), BAD);
        }
        DUE.is("two are LOST", x.count(2), 2);
    }

    /** BAD: there is no such. */
    static void p25NothingWasSent() {
        DUE.is("PACK 0", new WaveBuoys().miss(0), BAD);
        DUE.is("one that is there only", Made.sheet(0, "1 2").miss(0), BAD);
    }

    static void p25NoneOfNone() {
        WaveBuoys x = Made.sheet(0, "");
        x.send(0);
        DUE.is("PACK 0", x.miss(0), BAD);
    }

    /** 0: it was. */
    static void p25OneThatWasLost() {
        WaveBuoys x = sent(8);
        DUE.is("PACK 1", x.miss(1), 1);
        DUE.is("PACK 1 again", x.miss(1), 0);
        DUE.is("PACK 0", x.miss(0), 1);
        DUE.is("LOST ones", x.count(2), 2);
    }

    static void p25AllOfThem() {
        WaveBuoys x = sent(64);
        for (int p = 0; p < 10; p++) {
            DUE.is("PACK " + p, x.miss(p), 1);
            DUE.is("LOST ones", x.count(2), p + 1);
        }
    }

    static void p25ItStaysLostWhenReceived() {
        WaveBuoys x = sent(8);
        x.miss(0);
        x.receive(1);
        DUE.is("PACK 0", x.miss(0), 0);
        DUE.is("LOST ones", x.count(2), 1);
    }

    // ---- promise 26: receive

    static void p26SheetsFrom0To7() {
        WaveBuoys x = Made.sheet(0, "4 -");
        x.send(0);
        for (int k : NO_SHEETS) {
            DUE.is("receive " + k, x.receive(k), BAD);
        }
        x.drop(0);
        DUE.is("the least", x.receive(0), 1);
        DUE.is("the greatest", x.receive(7), 1);
        DUE.is("SHEET 0", Made.words(x, 0), "4 -");
        DUE.is("SHEET 7", Made.words(x, 7), "4 -");
    }

    /** NO: nothing was SENT. */
    static void p26NothingWasSent() {
        WaveBuoys x = Made.sheet(1, "4 -");
        DUE.is("receive", x.receive(0), NO);
        DUE.is("it stays", Made.words(x, 0), "4 -");
        x.send(1);
        DUE.is("behind a send that was refused", x.receive(0), NO);
    }

    static void p26BadAheadOfNo() {
        DUE.is("SHEET 8", new WaveBuoys().receive(8), BAD);
        DUE.is("SHEET -1", new WaveBuoys().receive(-1), BAD);
    }

    static void p26None() {
        WaveBuoys x = Made.sheet(1, "");
        x.send(0);
        DUE.is("to a missing one", x.receive(1), 0);
        DUE.is("it is there", x.count(0), 2);
        DUE.is("its SORT", x.about(1, 0), 1);
        DUE.is("how many", x.about(1, 1), 0);
    }

    /** PACKS that were not LOST as they were. */
    static void p26NoPackIsLost() {
        int[] ns = {1, 7, 8, 9, 32, 33, 64};
        for (int n : ns) {
            dueReceived("all of " + n, sent(n), n);
        }
    }

    static void p26AllPacksAreLost() {
        int[] ns = {1, 8, 33, 64};
        for (int n : ns) {
            WaveBuoys x = sent(n);
            for (int p = 0; p < 10; p++) {
                x.miss(p);
            }
            dueReceived("none of " + n, x, n, 0, n - 1);
        }
    }

    static void p26SumsAloneAreLost() {
        WaveBuoys x = sent(64);
        miss(x, 8, 9);
        dueReceived("both SUMS", x, 64);
        x = sent(5);
        x.miss(1);
        dueReceived("the only SUM", x, 5);
    }

    /** Of four of which just one was LOST, and not their SUM. */
    static void p26EachOneOfTheFirstFour() {
        for (int p = 0; p < 4; p++) {
            WaveBuoys x = sent(64);
            x.miss(p);
            dueReceived("PACK " + p, x, 64);
        }
    }

    static void p26EachOneOfTheLastFour() {
        for (int p = 4; p < 8; p++) {
            WaveBuoys x = sent(64);
            x.miss(p);
            dueReceived("PACK " + p, x, 64);
        }
    }

    static void p26OneOfEachFour() {
        int[][] pairs = {{0, 4}, {3, 4}, {0, 7}, {3, 7}};
        for (int[] pair : pairs) {
            WaveBuoys x = sent(64);
            miss(x, pair);
            dueReceived("PACKS " + pair[0] + " and " + pair[1], x, 64);
        }
    }

    /** Else its SAMPLES are LOST. */
    static void p26TwoOfFour() {
        WaveBuoys x = sent(64);
        miss(x, 0, 3);
        dueReceived("the ends of the first four", x, 64, 0, 7, 24, 31);
        x = sent(64);
        miss(x, 4, 7);
        dueReceived("the ends of the last four", x, 64, 32, 39, 56, 63);
    }

    static void p26ThreeAndFourOfFour() {
        WaveBuoys x = sent(40);
        miss(x, 0, 1, 2);
        dueReceived("three", x, 40, 0, 23);
        x.miss(3);
        dueReceived("four", x, 40, 0, 31);
    }

    static void p26TwoOfOneFourAndOneOfTheOther() {
        WaveBuoys x = sent(64);
        miss(x, 1, 2, 5);
        dueReceived("the other is mended", x, 64, 8, 23);
    }

    /** And not their SUM. */
    static void p26OneAndItsSum() {
        WaveBuoys x = sent(64);
        miss(x, 1, 8);
        dueReceived("of the first four", x, 64, 8, 15);
        x = sent(64);
        miss(x, 6, 9);
        dueReceived("of the last four", x, 64, 48, 55);
    }

    static void p26OneAndTheOthersSum() {
        WaveBuoys x = sent(64);
        miss(x, 3, 9);
        dueReceived("the last of the first four", x, 64);
        x = sent(64);
        miss(x, 4, 8);
        dueReceived("the first of the last four", x, 64);
        x = sent(36);
        miss(x, 4, 5);
        dueReceived("the only one of the last four", x, 36);
    }

    /** Of four (or fewer). */
    static void p26OneOfOne() {
        int[] ns = {1, 7, 8};
        for (int n : ns) {
            WaveBuoys x = sent(n);
            x.miss(0);
            dueReceived("as the SUM alone tells, of " + n, x, n);
            x.miss(1);
            dueReceived("nothing tells, of " + n, x, n, 0, n - 1);
        }
    }

    static void p26OneOfTwoAndOfThree() {
        int[] ns = {16, 24};
        for (int n : ns) {
            for (int p = 0; p < n / 8; p++) {
                WaveBuoys x = sent(n);
                x.miss(p);
                dueReceived("PACK " + p + " of " + n, x, n);
            }
        }
    }

    static void p26OneOfTheOnlyOneOfTheLastFour() {
        WaveBuoys x = sent(36);
        miss(x, 0, 4);
        dueReceived("the fifth", x, 36);
        x.miss(6);
        dueReceived("the fifth and its SUM", x, 36, 32, 35);
    }

    /** The last one of fewer, perhaps: those that there are none, as 0. */
    static void p26TheLastOneOfFewer() {
        int[] ns = {9, 15, 17, 31, 57, 63};
        for (int n : ns) {
            int last = (n - 1) / 8;
            WaveBuoys x = sent(n);
            x.miss(last);
            dueReceived("the last of " + n, x, n);
            x.miss(last - 1);
            dueReceived("it and the one ahead of " + n, x, n, 8 * last - 8, n - 1);
        }
    }

    static void p26BesideTheLastOneOfFewer() {
        int[] ns = {9, 15, 57};
        for (int n : ns) {
            int beside = (n - 1) / 8 - 1;
            WaveBuoys x = sent(n);
            x.miss(beside);
            dueReceived("the one ahead of the last of " + n, x, n);
        }
    }

    /** Numbers of LOST ones as 0, and of whether it is told, FILLED likewise. */
    static void p26APackOfLostOnesIsMended() {
        WaveBuoys x = Made.sheet(1, Made.times(8, "-") + " 5 f6 - 5 f6 - 5 f6");
        x.send(0);
        x.miss(0);
        DUE.is("receive", x.receive(1), 10);
        DUE.is("RECEIVED", Made.words(x, 1), Made.words(x, 0));
    }

    static void p26TheLeastAndTheGreatestOfEachSortAreMended() {
        String[] words = {"-128 127 -1 f-128 0 f127 - f-1 127 -128 -1 - 0 -1 -1 127",
            "-32768 32767 -1 f-32768 0 f32767 - f-1 32767 -32768 -1 - 0 -1 -1 32767",
            "-2147483648 2147483647 -1 f-2147483648 0 f2147483647 - f-1 2147483647 -2147483648 -1 - 0 -1 -1 2147483647"};
        for (int sort = 0; sort < 3; sort++) {
            for (int p = 0; p < 2; p++) {
                WaveBuoys x = Made.sheet(sort, words[sort]);
                x.send(0);
                x.miss(p);
                DUE.is("receive of SORT " + sort, x.receive(1), 2);
                DUE.is("RECEIVED of SORT " + sort, Made.words(x, 1), words[sort]);
                DUE.is("SORT", x.about(1, 0), sort);
            }
        }
    }

    static void p26ToASheetThatWasMissing() {
        WaveBuoys x = sent(9);
        DUE.is("SHEETS ahead", x.count(0), 1);
        dueReceived("to a missing one", x, 9);
        DUE.is("SHEETS behind", x.count(0), 2);
    }

    static void p26ToASheetOfMoreAndOfFewer() {
        WaveBuoys x = sent(9);
        x.sheet(1, 0, 64);
        dueReceived("to one of 64 bytes", x, 9);
        x.sheet(1, 1, 0);
        dueReceived("to one of none", x, 9);
        DUE.is("SHEETS", x.count(0), 2);
    }

    static void p26ToTheOneThatWasSent() {
        WaveBuoys x = sent(24);
        miss(x, 0, 1);
        String[] words = mixed(24);
        for (int i = 0; i < 16; i++) {
            words[i] = "-";
        }
        x.receive(0);
        DUE.is("the first time", Made.words(x, 0), String.join(" ", words));
        x.receive(0);
        DUE.is("the second time", Made.words(x, 0), String.join(" ", words));
    }

    /** It can be again. */
    static void p26AgainAndAgainWithMoreLost() {
        WaveBuoys x = sent(24);
        dueReceived("all", x, 24);
        x.miss(2);
        dueReceived("mended", x, 24);
        x.miss(0);
        dueReceived("two LOST", x, 24, 0, 7, 16, 23);
        dueReceived("two LOST again", x, 24, 0, 7, 16, 23);
    }

    static void p26AsItWasWhenItWasSent() {
        WaveBuoys x = sent(9);
        x.put(0, 0, 77);
        x.lose(0, 8);
        dueReceived("changed since", x, 9);
        x.drop(0);
        dueReceived("dropped since", x, 9);
    }

    static void p26WhatIsReceivedCanBeChanged() {
        WaveBuoys x = sent(9);
        x.receive(1);
        x.put(1, 0, 77);
        x.lose(1, 8);
        DUE.is("it", x.get(1, 0), 77);
        dueReceived("again", x, 9);
    }

    static void p26BadLeavesTheSheets() {
        WaveBuoys x = sent(9);
        long digest = x.digest();
        x.receive(8);
        x.receive(-1);
        DUE.is("digest", x.digest(), digest);
    }

    // ---- promise 27: rule

    private static void dueHeard(WaveBuoys x, int[]... heard) {
        for (int[] h : heard) {
            DUE.is("hear " + h[0], x.hear(h[0]), h[1]);
        }
    }

    private static int[] hear(int v, int warning) {
        return new int[] {v, warning};
    }

    /** ON above OFF. */
    static void p27OnJustAboveOff() {
        WaveBuoys x = new WaveBuoys();
        DUE.is("one above", x.rule(6, 5, 0), 1);
        dueHeard(x, hear(5, 0), hear(6, 1), hear(5, 0), hear(6, 1));
    }

    static void p27OnAtOffAndBelowIsBad() {
        WaveBuoys x = new WaveBuoys();
        DUE.is("alike", x.rule(5, 5, 0), BAD);
        DUE.is("below", x.rule(4, 5, 0), BAD);
        DUE.is("the least and the greatest", x.rule(LEAST, GREATEST, 0), BAD);
        DUE.is("both the least", x.rule(LEAST, LEAST, 0), BAD);
        DUE.is("both the greatest", x.rule(GREATEST, GREATEST, 0), BAD);
    }

    static void p27TheGreatestOnAndTheLeastOff() {
        WaveBuoys x = new WaveBuoys();
        DUE.is("rule", x.rule(GREATEST, LEAST, 0), 1);
        dueHeard(x, hear(GREATEST - 1, 0), hear(GREATEST, 1), hear(LEAST + 1, 1), hear(LEAST, 0));
    }

    static void p27OnAndOffBothBelow0() {
        WaveBuoys x = new WaveBuoys();
        DUE.is("rule", x.rule(LEAST + 1, LEAST, 0), 1);
        dueHeard(x, hear(LEAST, 0), hear(LEAST + 1, 1), hear(LEAST, 0));
    }

    /** HOLD (0 .. 1000). */
    static void p27HoldFrom0To1000() {
        WaveBuoys x = new WaveBuoys();
        DUE.is("0", x.rule(6, 5, 0), 1);
        DUE.is("1000", x.rule(6, 5, 1000), 1);
        int[] bad = {-1, 1001, LEAST, GREATEST};
        for (int hold : bad) {
            DUE.is("HOLD " + hold, x.rule(6, 5, hold), BAD);
        }
    }

    /** The WARNING is 0 then, nothing was heard. */
    static void p27NothingWasHeardThen() {
        WaveBuoys x = new WaveBuoys();
        dueHeard(x, hear(100, 1), hear(0, 0), hear(100, 1));
        DUE.is("rule", x.rule(100, 50, 0), 1);
        DUE.is("values heard", x.count(3), 0);
        DUE.is("changes", x.count(4), 0);
        DUE.is("the WARNING", x.count(5), 0);
    }

    static void p27WhatChangedAheadDoesNotHold() {
        WaveBuoys x = new WaveBuoys();
        x.rule(10, 0, 5);
        x.hear(10);
        x.rule(10, 0, 5);
        DUE.is("at once", x.hear(10), 1);
    }

    static void p27RefusedLeavesTheRuleAndWhatWasHeard() {
        int[][] bad = {{5, 5, 0}, {4, 5, 0}, {60, 10, -1}, {60, 10, 1001}};
        for (int[] b : bad) {
            WaveBuoys x = new WaveBuoys();
            x.rule(20, 10, 1);
            dueHeard(x, hear(19, 0), hear(20, 1));
            DUE.is("rule " + b[0] + " " + b[1] + " " + b[2], x.rule(b[0], b[1], b[2]), BAD);
            DUE.is("values heard", x.count(3), 2);
            DUE.is("changes", x.count(4), 1);
            DUE.is("the WARNING", x.count(5), 1);
            dueHeard(x, hear(10, 1), hear(11, 1), hear(10, 0), hear(20, 0), hear(19, 0), hear(20, 1));
        }
    }

    // ---- promise 28: hear

    /** 1 if it is ON or more. */
    static void p28JustOnAndOneBelow() {
        WaveBuoys x = new WaveBuoys();
        dueHeard(x, hear(99, 0), hear(100, 1));
        dueHeard(new WaveBuoys(), hear(101, 1));
    }

    /** 0 if it is OFF or less. */
    static void p28JustOffAndOneAbove() {
        WaveBuoys x = new WaveBuoys();
        dueHeard(x, hear(100, 1), hear(51, 1), hear(50, 0), hear(100, 1), hear(49, 0));
    }

    static void p28TheLeastAndTheGreatest() {
        dueHeard(new WaveBuoys(), hear(LEAST, 0), hear(GREATEST, 1), hear(LEAST, 0));
    }

    static void p28BetweenItStays() {
        WaveBuoys x = new WaveBuoys();
        dueHeard(x, hear(51, 0), hear(99, 0), hear(100, 1), hear(99, 1), hear(51, 1));
        DUE.is("changes", x.count(4), 1);
        DUE.is("values heard", x.count(3), 5);
    }

    static void p28WhatItIsAlreadyIsNoChange() {
        WaveBuoys x = new WaveBuoys();
        dueHeard(x, hear(0, 0), hear(50, 0), hear(100, 1), hear(200, 1));
        DUE.is("changes", x.count(4), 1);
    }

    static void p28FirstValueChangesItWithAnyHold() {
        WaveBuoys x = new WaveBuoys();
        x.rule(10, 0, 1000);
        dueHeard(x, hear(10, 1));
        x.rule(10, 0, 1000);
        dueHeard(x, hear(0, 0), hear(10, 1));
    }

    /** Not if it changed within the HOLD values heard just ahead. */
    static void p28AllHoldValuesAndOneMore() {
        for (int hold = 0; hold < 6; hold++) {
            WaveBuoys x = new WaveBuoys();
            x.rule(10, 0, hold);
            x.hear(10);
            for (int i = 1; i <= hold; i++) {
                DUE.is("value " + i + " behind, HOLD " + hold, x.hear(0), 1);
            }
            DUE.is("value " + (hold + 1) + " behind, HOLD " + hold, x.hear(0), 0);
            for (int i = 1; i <= hold; i++) {
                DUE.is("value " + i + " behind that, HOLD " + hold, x.hear(10), 0);
            }
            DUE.is("value " + (hold + 1) + " behind that, HOLD " + hold, x.hear(10), 1);
            DUE.is("changes", x.count(4), 3);
            DUE.is("values heard", x.count(3), 3 + 2 * hold);
        }
    }

    static void p28ValuesBetweenCountForHold() {
        WaveBuoys x = new WaveBuoys();
        x.rule(10, 0, 2);
        dueHeard(x, hear(10, 1), hear(5, 1), hear(5, 1), hear(0, 0));
    }

    static void p28WhatWasHeldIsNotMadeUpFor() {
        WaveBuoys x = new WaveBuoys();
        x.rule(10, 0, 1);
        dueHeard(x, hear(10, 1), hear(0, 1), hear(5, 1), hear(5, 1), hear(0, 0));
    }

    static void p28WhatWasNoChangeDoesNotHold() {
        WaveBuoys x = new WaveBuoys();
        x.rule(10, 0, 1);
        dueHeard(x, hear(10, 1), hear(10, 1), hear(0, 0));
        x.rule(10, 0, 2);
        dueHeard(x, hear(10, 1), hear(0, 1), hear(0, 1), hear(0, 0));
    }

    static void p28FarWithinTheGreatestHold() {
        WaveBuoys x = new WaveBuoys();
        x.rule(10, 0, 1000);
        x.hear(10);
        for (int i = 0; i < 500; i++) {
            DUE.is("held " + i, x.hear(0), 1);
        }
        DUE.is("values heard", x.count(3), 501);
    }

    // ---- promise 29: anchor

    /** r 0 .. 1000000. */
    static void p29ReachFrom0To1000000() {
        WaveBuoys x = new WaveBuoys();
        DUE.is("0", x.anchor(0, 0, 0, 1), 1);
        DUE.is("1000000", x.anchor(0, 0, MOST_WAY, 1), 1);
        int[] bad = {-1, MOST_WAY + 1, LEAST, GREATEST};
        for (int r : bad) {
            DUE.is("r " + r, x.anchor(0, 0, r, 1), BAD);
        }
    }

    /** m 1 .. 100. */
    static void p29PatienceFrom1To100() {
        WaveBuoys x = new WaveBuoys();
        DUE.is("1", x.anchor(0, 0, 0, 1), 1);
        DUE.is("100", x.anchor(0, 0, 0, 100), 1);
        int[] bad = {0, -1, 101, LEAST, GREATEST};
        for (int m : bad) {
            DUE.is("m " + m, x.anchor(0, 0, 0, m), BAD);
        }
    }

    /** BAD: also x, y above 1000000 in size. */
    static void p29PlacesTo1000000InSize() {
        WaveBuoys x = new WaveBuoys();
        int[] sides = {1, -1};
        for (int side : sides) {
            DUE.is("x", x.anchor(side * MOST_WAY, 0, 0, 1), 1);
            DUE.is("y", x.anchor(0, side * MOST_WAY, 0, 1), 1);
            DUE.is("x beyond", x.anchor(side * (MOST_WAY + 1), 0, 0, 1), BAD);
            DUE.is("y beyond", x.anchor(0, side * (MOST_WAY + 1), 0, 1), BAD);
        }
        DUE.is("x the least", x.anchor(LEAST, 0, 0, 1), BAD);
        DUE.is("y the least", x.anchor(0, LEAST, 0, 1), BAD);
        DUE.is("both the greatest", x.anchor(GREATEST, GREATEST, 0, 1), BAD);
    }

    /** No place was told. */
    static void p29NoPlaceWasToldThen() {
        WaveBuoys x = new WaveBuoys();
        x.fix(5, 7);
        x.fix(8, 3);
        x.anchor(0, 0, 0, 3);
        for (int what = 6; what < 10; what++) {
            DUE.is("count " + what, x.count(what), 0);
        }
        DUE.is("OUT anew", x.fix(1, 1), 1);
        DUE.is("x of one place", x.count(8), 0);
        DUE.is("y of one place", x.count(9), 0);
    }

    static void p29RefusedLeavesTheAnchorAndThePlaces() {
        int far = MOST_WAY + 1;
        int[][] bad = {{far, 0, 9, 1}, {0, -far, 9, 1}, {0, 0, -1, 1}, {0, 0, far, 1}, {0, 0, 9, 0}, {0, 0, 9, 101}};
        for (int[] b : bad) {
            WaveBuoys x = new WaveBuoys();
            x.anchor(100, 200, 5, 3);
            x.fix(100, 206);
            x.fix(94, 200);
            DUE.is("anchor " + b[0] + " " + b[1] + " " + b[2] + " " + b[3], x.anchor(b[0], b[1], b[2], b[3]), BAD);
            DUE.is("places", x.count(6), 2);
            DUE.is("OUT", x.count(7), 2);
            DUE.is("x", x.count(8), 6);
            DUE.is("y", x.count(9), 6);
            DUE.is("the third OUT", x.fix(106, 200), 2);
            DUE.is("not OUT", x.fix(103, 204), 0);
            DUE.is("OUT", x.fix(104, 204), 1);
        }
    }

    // ---- promise 30: fix

    static void p30PlacesTo1000000InSize() {
        WaveBuoys x = new WaveBuoys();
        int[] sides = {1, -1};
        int told = 0;
        for (int side : sides) {
            DUE.is("x", x.fix(side * MOST_WAY, 0), 2);
            DUE.is("y", x.fix(0, side * MOST_WAY), 2);
            told += 2;
            DUE.is("x beyond", x.fix(side * (MOST_WAY + 1), 0), BAD);
            DUE.is("y beyond", x.fix(0, side * (MOST_WAY + 1)), BAD);
            DUE.is("places", x.count(6), told);
        }
        DUE.is("x the least", x.fix(LEAST, 0), BAD);
        DUE.is("y the least", x.fix(0, LEAST), BAD);
        DUE.is("both the greatest", x.fix(GREATEST, GREATEST), BAD);
    }

    static void p30RefusedLeavesThePlaces() {
        WaveBuoys x = new WaveBuoys();
        x.anchor(0, 0, 5, 3);
        x.fix(0, 6);
        x.fix(8, 0);
        x.fix(MOST_WAY + 1, 0);
        x.fix(0, -MOST_WAY - 1);
        DUE.is("places", x.count(6), 2);
        DUE.is("OUT", x.count(7), 2);
        DUE.is("x", x.count(8), 8);
        DUE.is("y", x.count(9), 6);
        DUE.is("the third OUT", x.fix(9, 9), 2);
    }

    /** A place is OUT if it is farther than r from the anchor (exactly). */
    static void p30JustAsFarIsNotOut() {
        int[][] places = {{3, 4}, {-3, 4}, {4, -3}, {-4, -3}, {5, 0}, {0, -5}};
        for (int[] p : places) {
            WaveBuoys x = new WaveBuoys();
            x.anchor(10, -20, 5, 1);
            DUE.is("fix " + p[0] + " " + p[1], x.fix(10 + p[0], p[1] - 20), 0);
        }
    }

    static void p30OneFartherIsOut() {
        int[][] places = {{4, 4}, {-3, 5}, {6, 0}, {0, -6}, {5, 1}, {-1, -5}};
        for (int[] p : places) {
            WaveBuoys x = new WaveBuoys();
            x.anchor(10, -20, 5, 1);
            DUE.is("fix " + p[0] + " " + p[1], x.fix(10 + p[0], p[1] - 20), 2);
        }
    }

    static void p30ExactlyAtTheGreatestReach() {
        WaveBuoys x = new WaveBuoys();
        x.anchor(0, 0, MOST_WAY, 1);
        DUE.is("on it", x.fix(MOST_WAY, 0), 0);
        DUE.is("a little farther", x.fix(MOST_WAY, 1), 2);
        DUE.is("on it, too", x.fix(-600000, 800000), 0);
        DUE.is("a little farther, too", x.fix(-600001, 800000), 2);
        DUE.is("the corner", x.fix(-MOST_WAY, -MOST_WAY), 2);
    }

    /** Nothing wraps around with the farthest. */
    static void p30TheFarthest() {
        WaveBuoys x = new WaveBuoys();
        x.anchor(-MOST_WAY, -MOST_WAY, MOST_WAY, 2);
        DUE.is("far away", x.fix(MOST_WAY, MOST_WAY), 1);
        DUE.is("far away by x", x.fix(MOST_WAY, -MOST_WAY), 2);
        DUE.is("half as far", x.fix(0, -MOST_WAY), 0);
    }

    static void p30ReachNought() {
        WaveBuoys x = new WaveBuoys();
        x.anchor(7, 8, 0, 1);
        DUE.is("at the anchor", x.fix(7, 8), 0);
        DUE.is("beside it", x.fix(7, 9), 2);
    }

    /** ADRIFT: the m latest places, or more, are OUT one after another. */
    static void p30JustMOutAndMore() {
        int[] ms = {1, 2, 3, 100};
        for (int m : ms) {
            WaveBuoys x = new WaveBuoys();
            x.anchor(0, 0, 0, m);
            for (int i = 1; i < m; i++) {
                DUE.is("OUT " + i + " of " + m, x.fix(1, 1), 1);
            }
            DUE.is("OUT " + m + " of " + m, x.fix(1, 1), 2);
            DUE.is("one more than " + m, x.fix(1, 1), 2);
            DUE.is("OUT one after another", x.count(7), m + 1);
        }
    }

    static void p30OneThatIsNotOutBeginsAnew() {
        WaveBuoys x = new WaveBuoys();
        x.anchor(0, 0, 0, 2);
        DUE.is("OUT", x.fix(1, 1), 1);
        DUE.is("not OUT", x.fix(0, 0), 0);
        DUE.is("OUT anew", x.fix(1, 1), 1);
        DUE.is("ADRIFT", x.fix(1, 1), 2);
        DUE.is("not ADRIFT", x.fix(0, 0), 0);
        DUE.is("OUT once more", x.fix(1, 1), 1);
    }

    // ---- promise 31: count

    static void p31WhatFrom0To9() {
        WaveBuoys x = new WaveBuoys();
        DUE.is("0", x.count(0), 0);
        DUE.is("9", x.count(9), 0);
        int[] bad = {-1, 10, LEAST, GREATEST};
        for (int what : bad) {
            DUE.is("what " + what, x.count(what), BAD);
        }
    }

    static void p31NoSheetAndAllSheets() {
        WaveBuoys x = new WaveBuoys();
        for (int k = 0; k < 8; k++) {
            DUE.is("SHEETS", x.count(0), k);
            x.sheet(k, 0, k == 3 ? 0 : 1);
        }
        DUE.is("all", x.count(0), 8);
        for (int k = 7; k >= 0; k--) {
            x.drop(k);
            DUE.is("SHEETS, fewer", x.count(0), k);
        }
    }

    static void p31NoPackAndAllPacks() {
        WaveBuoys x = sent(64);
        DUE.is("PACKS", x.count(1), 10);
        DUE.is("none LOST", x.count(2), 0);
        for (int p = 0; p < 10; p++) {
            x.miss(p);
        }
        DUE.is("PACKS still", x.count(1), 10);
        DUE.is("all LOST", x.count(2), 10);
    }

    static void p31ValuesHeardAndChanges() {
        WaveBuoys x = new WaveBuoys();
        int[] values = {100, 70, 50, 70, 100};
        for (int v : values) {
            x.hear(v);
        }
        DUE.is("values heard", x.count(3), 5);
        DUE.is("changes", x.count(4), 3);
        DUE.is("the WARNING", x.count(5), 1);
    }

    static void p31OutUpToNow() {
        WaveBuoys x = new WaveBuoys();
        int[][] places = {{1, 0, 1}, {2, 0, 2}, {0, 0, 0}, {3, 0, 1}, {3, 0, 2}};
        for (int i = 0; i < places.length; i++) {
            x.fix(places[i][0], places[i][1]);
            DUE.is("places told", x.count(6), i + 1);
            DUE.is("OUT one after another", x.count(7), places[i][2]);
        }
    }

    /** 0: none. */
    static void p31NoPlaceOneAndTwo() {
        WaveBuoys x = new WaveBuoys();
        DUE.is("x of none", x.count(8), 0);
        DUE.is("y of none", x.count(9), 0);
        x.fix(-500, 900);
        DUE.is("x of one", x.count(8), 0);
        DUE.is("y of one", x.count(9), 0);
        x.fix(-510, 907);
        DUE.is("x of two", x.count(8), 10);
        DUE.is("y of two", x.count(9), 7);
        x.fix(-505, 903);
        DUE.is("x of three", x.count(8), 10);
        DUE.is("y of three", x.count(9), 7);
    }

    static void p31TheAnchorIsNoPlace() {
        WaveBuoys x = new WaveBuoys();
        x.anchor(1000, 1000, 1, 1);
        x.fix(5, 5);
        DUE.is("x", x.count(8), 0);
        DUE.is("y", x.count(9), 0);
    }

    static void p31PlacesAllAboveAndAllBelow0() {
        int[] sides = {1, -1};
        for (int side : sides) {
            WaveBuoys x = new WaveBuoys();
            x.fix(side * 10, side * 20);
            x.fix(side * 13, side * 25);
            DUE.is("x", x.count(8), 3);
            DUE.is("y", x.count(9), 5);
        }
    }

    static void p31TheWidest() {
        WaveBuoys x = new WaveBuoys();
        x.fix(MOST_WAY, -MOST_WAY);
        x.fix(-MOST_WAY, MOST_WAY);
        DUE.is("x", x.count(8), 2 * MOST_WAY);
        DUE.is("y", x.count(9), 2 * MOST_WAY);
    }

    /** An object is used for at most 512 calls. */
    static void p31ValuesHeardUpToThe512thCall() {
        WaveBuoys x = new WaveBuoys();
        for (int i = 0; i < 511; i++) {
            x.hear(i % 2 == 0 ? 100 : 50);
        }
        DUE.is("values heard", x.count(3), 511);
        x = new WaveBuoys();
        for (int i = 0; i < 511; i++) {
            x.hear(i % 2 == 0 ? 100 : 50);
        }
        DUE.is("changes", x.count(4), 511);
    }

    static void p31PlacesToldUpToThe512thCall() {
        WaveBuoys x = new WaveBuoys();
        for (int i = 0; i < 511; i++) {
            x.fix(1, 1);
        }
        DUE.is("places told", x.count(6), 511);
        x = new WaveBuoys();
        for (int i = 0; i < 511; i++) {
            x.fix(1, 1);
        }
        DUE.is("OUT one after another", x.count(7), 511);
    }

    static void p31RefusedIsNotCounted() {
        WaveBuoys x = new WaveBuoys();
        x.sheet(0, 0, 65);
        x.send(0);
        x.miss(0);
        x.rule(0, 0, 0);
        x.fix(MOST_WAY + 1, 0);
        x.receive(0);
        for (int what = 0; what < 10; what++) {
            DUE.is("count " + what, x.count(what), 0);
        }
    }

    // ---- promise 32: digest

    private static long digestOf(long... values) {
        long h = 139;
        for (long v : values) {
            h = 31 * h + v;
        }
        return h;
    }

    static void p32ANewObject() {
        DUE.is("ten counts and six ROWS, all 0", new WaveBuoys().digest(), digestOf(new long[16]));
    }

    static void p32SheetsThatAreMissingAreNotTold() {
        WaveBuoys x = Made.sheet(1, "1 2");
        x.drop(0);
        DUE.is("none is there", x.digest(), new WaveBuoys().digest());
    }

    static void p32ASheetOfNone() {
        WaveBuoys x = new WaveBuoys();
        x.sheet(7, 2, 0);
        DUE.is("digest", x.digest(), digestOf(1, 0, 0, 0, 0, 0, 0, 0, 0, 0, 7, 2, 0, 0, 0, 0, 0, 0, 0, 0, 0, 0, 0));
    }

    /** And number, if it is not LOST. */
    static void p32LostOnesHaveNoNumber() {
        WaveBuoys x = new WaveBuoys();
        Made.sheet(x, 1, 1, "- 5 f-6 -");
        DUE.is("digest", x.digest(), digestOf(1, 0, 0, 0, 0, 0, 0, 0, 0, 0, 1, 1, 4, 2, 1, 2, 1, 0, 1, 5, 2, -6, 0,
            0, 0, 0, 0, 0, 0));
    }

    static void p32TheFirstAndTheLastSheetAndRow() {
        WaveBuoys x = Made.sheet(0, "3");
        Made.sheet(x, 7, 2, "-2147483648");
        x.raise(0, 0);
        x.raise(7, 5);
        DUE.is("digest", x.digest(), digestOf(2, 0, 0, 0, 0, 0, 0, 0, 0, 0, 0, 0, 1, 0, 0, 0, 0, 1, 3,
            7, 2, 1, 0, 0, 0, 0, 1, LEAST, 1, 3, 0, 0, 0, 0, 1, LEAST));
    }

    static void p32RowsWithTheGreatestNumbers() {
        WaveBuoys x = Made.row(4000000000000000L, -4000000000000000L);
        Made.row(x, 5);
        DUE.is("digest", x.digest(), digestOf(0, 0, 0, 0, 0, 0, 0, 0, 0, 0, 2, 4000000000000000L, -4000000000000000L, 0, 0, 0, 0, 0));
    }

    static void p32EveryCount() {
        WaveBuoys x = Made.sheet(0, "");
        x.sheet(1, 1, 9);
        x.send(1);
        x.miss(2);
        x.drop(1);
        x.hear(100);
        x.hear(70);
        x.fix(3, 4);
        x.fix(5, 9);
        DUE.is("digest", x.digest(), digestOf(1, 3, 1, 2, 1, 1, 2, 2, 2, 5, 0, 0, 0, 0, 0, 0, 0, 0, 0, 0, 0, 0, 0));
    }

    static void p32ItChangesNothing() {
        WaveBuoys x = sent(20);
        x.hear(100);
        x.fix(1, 1);
        long digest = x.digest();
        DUE.is("again", x.digest(), digest);
        DUE.is("PACKS", x.count(1), 4);
        DUE.is("places", x.count(6), 1);
    }
}
