import java.lang.reflect.Field;
import java.lang.reflect.Method;
import java.lang.reflect.Modifier;

/** The document ahead of its promises and behind them, but for its terms. */
final class SaysFirst extends Says {
    static void whatItIs() {
        reads("# WaveBuoys ## What it is");
        says("Buoys that tell waves by their own moves:", () -> {
            WaveBuoys x = Made.sheet(1, "5 -3 7 -9 0 4 -2 6");
            x.raise(0, 0);
            DUE.is("waves", x.waves(0), 2);
        });
        says("sheets of samples with lost ones", () -> {
            WaveBuoys x = Made.sheet(1, "1 - 3");
            DUE.is("stands", x.stands(0, 1), 0);
            DUE.failed("get", x.get(0, 1), LOST);
        });
        says("and filled ones that stay marked,", () -> {
            WaveBuoys x = Made.sheet(1, "1 - 3");
            x.fill(0, 1);
            words("filled", x, 0, "1 f2 3");
            x.sheet(1, 1, 3);
            x.copy(0, 0, 1, 0, 3);
            words("copied", x, 1, "1 f2 3");
            x.send(0);
            x.receive(2);
            words("received", x, 2, "1 f2 3");
            x.miss(0);
            x.receive(3);
            words("mended", x, 3, "1 f2 3");
        });
        says("heights by twice summing with both ends put right,", () -> {
            WaveBuoys x = Made.row(5, -3, 7, -9);
            x.turn(0, 2);
            DUE.is("the one end", x.number(0, 0), 0);
            DUE.is("the other end", x.number(0, 3), 0);
            DUE.is("a height between", x.number(0, 2), -11);
        });
        says("tones by whole transforms with all energy in bands,", () -> {
            WaveBuoys x = Made.row(5, -3, 7, -9);
            DUE.is("all energy", x.force(0, 0, 3), 164);
            x.turn(0, 3);
            DUE.is("all energy, 4 times", x.force(0, 0, 3), 656);
            DUE.is("in bands", x.force(0, 0, 0) + x.force(0, 1, 2) + x.force(0, 3, 3), 656);
            x.turn(0, 3);
            numbers("whole: what was, 4 times", x, 0, 20, -12, 28, -36);
        });
        says("waves by up-turns,", () -> {
            WaveBuoys x = Made.row(-1, 1, -1, 1, -1);
            DUE.is("waves", x.waves(0), 1);
            DUE.is("where it begins", x.wave(0, 0, 0), 1);
        });
        says("the way they go where sums allow to tell it,", () -> {
            DUE.is("heading", rows(of(1), of(1), of(0)).heading(0, 1, 2, 100), 0);
            DUE.is("heading of unlike ones", rows(of(1, 0), of(0, 1), of(0, 1)).heading(0, 1, 2, 1), NONE);
        });
        says("sheets sent in packs and mended where just one is lost,", () -> {
            WaveBuoys x = Made.sheet(0, mixedWords(20));
            DUE.is("one LOST", received(x, 1), mixedWords(20));
            DUE.is("two LOST", received(x, 1, 2), without(mixedWords(20), 8, 20));
        });
        says("warnings that do not flutter,", () -> {
            WaveBuoys x = new WaveBuoys();
            x.rule(10, 5, 2);
            each("hear", 1, x::hear, 10, 0, 0);
            DUE.is("hear 0", x.hear(0), 0);
        });
        says("and a mooring that is watched.", () -> {
            WaveBuoys x = new WaveBuoys();
            x.anchor(0, 0, 5, 2);
            DUE.is("fix", x.fix(3, 4), 0);
            DUE.is("fix OUT", x.fix(4, 4), 1);
            DUE.is("fix ADRIFT", x.fix(4, 4), 2);
        });
        says("An object is used for at most 512 calls after it has been made;", () -> {
            WaveBuoys x = new WaveBuoys();
            for (int call = 1; call < 512; call++) {
                x.hear(call);
            }
            DUE.is("the 512th call", x.count(3), 511);
        });
        reads("what later calls answer is free.");
    }

    static void thePublicFace() {
        reads("## The public face ```java");
        says("public final class WaveBuoys {", () ->
            DUE.is("public and final", WaveBuoys.class.getModifiers(), Modifier.PUBLIC | Modifier.FINAL));
        says("public static final int NONE = -1, BAD = -2, NO = -3, NOTHING = -10, UNLIKE = -11, SIZE = -12,"
            + " PLACE = -13, WIDE = -14, LOST = -15, FAR = -16;", () ->
            constants("int", "NONE -1 BAD -2 NO -3 NOTHING -10 UNLIKE -11 SIZE -12 PLACE -13 WIDE -14 LOST -15 FAR -16"));
        says("public static final long FAILED = -5000000000000000000L;", () -> constants("long", "FAILED -5000000000000000000"));
        says("public WaveBuoys();", () -> DUE.is("its maker", WaveBuoys.class.getConstructors()[0].toString(), "public WaveBuoys()"));
        String[] calls = {
            "int sheet(int k, int sort, int n)", "int drop(int k)", "int put(int k, int i, int v)", "long get(int k, int i)",
            "int lose(int k, int i)", "int stands(int k, int i)", "int copy(int from, int a, int to, int b, int n)",
            "int spikes(int k, int d)", "int fill(int k, int m)", "int about(int k, int what)", "int raise(int k, int row)",
            "long number(int row, int i)", "int turn(int row, int how)", "int part(int row, int from, int to)",
            "int mix(int row, int p, int other, int q)", "long force(int row, int from, int to)",
            "long cross(int row, int other)", "int waves(int row)", "long wave(int row, int w, int what)",
            "long third(int row, int what)", "int groups(int row, long b, int what)", "int heading(int h, int e, int n, int t)",
            "int send(int k)", "int miss(int p)", "int receive(int k)", "int rule(int on, int off, int hold)", "int hear(int v)",
            "int anchor(int x, int y, int r, int m)", "int fix(int x, int y)", "int count(int what)", "long digest()"};
        for (String call : calls) {
            says("public " + call + ";", () -> DUE.holds("the face has it", isOnTheFace(call)));
        }
        reads("} ```");
    }

    private static void constants(String type, String namesAndValues) {
        String[] word = namesAndValues.split(" ");
        for (int i = 0; i < word.length; i += 2) {
            String told = "none";
            for (Field f : WaveBuoys.class.getFields()) {
                told = f.getName().equals(word[i]) ? f.toString() + " = " + valueOf(f) : told;
            }
            DUE.is(word[i], told, "public static final " + type + " WaveBuoys." + word[i] + " = " + word[i + 1]);
        }
    }

    private static String valueOf(Field f) {
        try {
            return f.get(null).toString();
        } catch (IllegalAccessException e) {
            return "closed";
        }
    }

    static void theConstants() {
        DUE.promise(5, "get and others, the constants");
        says("The constants: `FAILED = -5000000000000000000L`: What a call that tells a long tells with a failure: this and it.", () -> {
            WaveBuoys x = new WaveBuoys();
            DUE.is("get", x.get(0, 0), -5000000000000000010L);
            DUE.is("number", x.number(0, 0), -5000000000000000013L);
            DUE.is("force", x.force(6, 0, 0), -5000000000000000002L);
            DUE.is("cross", x.cross(0, 6), -5000000000000000002L);
            DUE.is("wave", x.wave(0, 0, 0), -5000000000000000013L);
            DUE.is("third", x.third(0, 0), -5000000000000000003L);
            DUE.is("far", Made.row(MOST_SQUARED + 1).force(0, 0, 0), -5000000000000000016L);
        });
        ahead("`sheet`, `drop`, `put`, `get`, `lose`, `stands`, `copy`, `spikes`, `fill`, `about`", "sheets.");
        ahead("`raise`, `number`, `turn`, `part`, `mix`, `force`, `cross`, `waves`, `wave`, `third`, `groups`, `heading`", "rows.");
        ahead("`send`, `miss`, `receive`, `rule`, `hear`, `anchor`, `fix`, `count`, `digest`", "packs, warnings, mooring.");
    }

    /** That the calls are there is all that can be broken of it. */
    private static void ahead(String calls, String words) {
        DUE.promise(1, "the interface");
        says("Ahead of the calls " + calls + " the interface says: ---- " + words, () -> {
            for (String call : calls.replaceAll("[`,]", "").split(" ")) {
                int found = 0;
                for (Method m : WaveBuoys.class.getMethods()) {
                    found += m.getName().equals(call) ? 1 : 0;
                }
                DUE.is("how many are called " + call, found, 1);
            }
        });
    }

    static void notPromised() {
        DUE.promise(1, "not promised");
        reads("## Not promised");
        reads("How the state is held inside the object is free, as are the speed of each call, the text of toString"
            + " and the behaviour of equals and hashCode.");
        reads("Use of one object from several threads at once is not promised to be safe.");
        reads("Nothing is promised beyond the answers and state changes described above, and nothing about an object"
            + " after its 512th call.");
    }
}
