import java.util.Arrays;

/** Buoys that tell waves by their own moves: ../shared/DOC.md says what each call does. */
public final class WaveBuoys {
    public static final int NONE = -1, BAD = -2, NO = -3, NOTHING = -10, UNLIKE = -11, SIZE = -12, PLACE = -13, WIDE = -14, LOST = -15, FAR = -16;
    public static final long FAILED = -5000000000000000000L;

    private static final int FINE = 0;
    private static final int SHEETS = 8;
    private static final int ROWS = 6;
    private static final int MOST = 64;
    private static final int TURNS = 4;
    private static final int COUNTS = 10;
    private static final int ABOUTS = 6;
    private static final int WAVE_FACTS = 5;
    private static final int MOST_FACTOR = 1000;
    private static final int MOST_PERCENT = 100;
    private static final int MOST_HOLD = 1000;
    private static final int MOST_WAY = 1000000;
    private static final int MOST_OUT = 100;
    private static final long MOST_SQUARED = 200000000L;
    private static final long MOST_HEADED = 1000L;

    private final Sheet[] sheets;
    private final Row[] rows;
    private final Packs packs;
    private final Warning warning;
    private final Mooring mooring;

    public WaveBuoys() {
        sheets = new Sheet[SHEETS];
        for (int k = 0; k < SHEETS; k++) {
            sheets[k] = new Sheet();
        }
        rows = new Row[ROWS];
        for (int r = 0; r < ROWS; r++) {
            rows[r] = new Row();
        }
        packs = new Packs();
        warning = new Warning();
        mooring = new Mooring();
    }

    // ---- sheets

    public int sheet(int k, int sort, int n) {
        if (!isSheet(k) || sort < 0 || sort > 2 || n > MOST) {
            return BAD;
        }
        if (n < 0) {
            return SIZE;
        }
        sheets[k].begin(sort, n);
        return 1;
    }

    public int drop(int k) {
        int failure = sheetFailure(k);
        if (failure != FINE) {
            return failure;
        }
        return sheets[k].end();
    }

    public int put(int k, int i, int v) {
        int failure = sampleFailure(k, i);
        if (failure != FINE) {
            return failure;
        }
        if (!sheets[k].fits(v)) {
            return WIDE;
        }
        sheets[k].tell(i, v);
        return 1;
    }

    public long get(int k, int i) {
        int failure = sampleFailure(k, i);
        if (failure != FINE) {
            return FAILED + failure;
        }
        if (sheets[k].isLost(i)) {
            return FAILED + LOST;
        }
        return sheets[k].valueAt(i);
    }

    public int lose(int k, int i) {
        int failure = sampleFailure(k, i);
        if (failure != FINE) {
            return failure;
        }
        if (sheets[k].isLost(i)) {
            return 0;
        }
        sheets[k].forget(i);
        return 1;
    }

    public int stands(int k, int i) {
        int failure = sampleFailure(k, i);
        if (failure != FINE) {
            return failure;
        }
        return sheets[k].stateAt(i);
    }

    public int copy(int from, int a, int to, int b, int n) {
        if (!isSheet(from) || !isSheet(to)) {
            return BAD;
        }
        Sheet source = sheets[from];
        Sheet target = sheets[to];
        if (!source.isThere() || !target.isThere()) {
            return NOTHING;
        }
        if (source.sort() != target.sort()) {
            return UNLIKE;
        }
        if (n < 0) {
            return SIZE;
        }
        if (!source.hasStretch(a, n) || !target.hasStretch(b, n)) {
            return PLACE;
        }
        target.take(source, a, b, n);
        return n;
    }

    public int spikes(int k, int d) {
        if (!isSheet(k) || d < 0) {
            return BAD;
        }
        if (!sheets[k].isThere()) {
            return NOTHING;
        }
        return sheets[k].loseSpikes(d);
    }

    public int fill(int k, int m) {
        if (!isSheet(k) || m < 0 || m > MOST) {
            return BAD;
        }
        if (!sheets[k].isThere()) {
            return NOTHING;
        }
        return sheets[k].fillGaps(m);
    }

    public int about(int k, int what) {
        if (!isSheet(k) || what < 0 || what >= ABOUTS) {
            return BAD;
        }
        if (!sheets[k].isThere()) {
            return NOTHING;
        }
        return sheets[k].fact(what);
    }

    // ---- rows

    public int raise(int k, int row) {
        if (!isSheet(k) || !isRow(row)) {
            return BAD;
        }
        if (!sheets[k].isThere()) {
            return NOTHING;
        }
        if (sheets[k].lostSamples() > 0) {
            return LOST;
        }
        rows[row].take(sheets[k]);
        return rows[row].size();
    }

    public long number(int row, int i) {
        if (!isRow(row)) {
            return FAILED + BAD;
        }
        if (i < 0 || i >= rows[row].size()) {
            return FAILED + PLACE;
        }
        return rows[row].valueAt(i);
    }

    public int turn(int row, int how) {
        if (!isRow(row) || how < 0 || how >= TURNS) {
            return BAD;
        }
        return rows[row].change(how);
    }

    public int part(int row, int from, int to) {
        if (!isStretch(row, from, to)) {
            return BAD;
        }
        return rows[row].keepOnly(from, to);
    }

    public int mix(int row, int p, int other, int q) {
        if (!isRow(row) || !isRow(other) || !isWithin(p, MOST_FACTOR) || !isWithin(q, MOST_FACTOR)) {
            return BAD;
        }
        if (rows[row].size() != rows[other].size()) {
            return NO;
        }
        return rows[row].blend(p, rows[other], q);
    }

    public long force(int row, int from, int to) {
        if (!isStretch(row, from, to)) {
            return FAILED + BAD;
        }
        if (rows[row].exceeds(MOST_SQUARED, from, to)) {
            return FAILED + FAR;
        }
        return rows[row].squares(from, to);
    }

    public long cross(int row, int other) {
        if (!isRow(row) || !isRow(other)) {
            return FAILED + BAD;
        }
        if (rows[row].size() != rows[other].size()) {
            return FAILED + NO;
        }
        if (rows[row].anyExceeds(MOST_SQUARED) || rows[other].anyExceeds(MOST_SQUARED)) {
            return FAILED + FAR;
        }
        return rows[row].products(rows[other]);
    }

    public int waves(int row) {
        if (!isRow(row)) {
            return BAD;
        }
        return rows[row].findWaves();
    }

    public long wave(int row, int w, int what) {
        if (!isRow(row) || what < 0 || what >= WAVE_FACTS) {
            return FAILED + BAD;
        }
        if (w < 0 || w >= rows[row].findWaves()) {
            return FAILED + PLACE;
        }
        return rows[row].waveFact(w, what);
    }

    public long third(int row, int what) {
        if (!isRow(row) || what < 0 || what > 1) {
            return FAILED + BAD;
        }
        int found = rows[row].findWaves();
        if (found == 0) {
            return FAILED + NO;
        }
        int highest = Math.max(found / 3, 1);
        long together = rows[row].highestTogether(found, highest);
        int shared = commonDivisor(together, highest);
        return what == 0 ? together / shared : highest / shared;
    }

    public int groups(int row, long b, int what) {
        if (!isRow(row) || what < 0 || what > 1) {
            return BAD;
        }
        return what == 0 ? rows[row].wavesInRows(b) : rows[row].longestRowOfWaves(b);
    }

    public int heading(int h, int e, int n, int t) {
        if (!isRow(h) || !isRow(e) || !isRow(n) || t < 1 || t > MOST_PERCENT) {
            return BAD;
        }
        Row up = rows[h];
        Row east = rows[e];
        Row north = rows[n];
        if (up.size() != east.size() || up.size() != north.size()) {
            return NO;
        }
        if (up.anyExceeds(MOST_HEADED) || east.anyExceeds(MOST_HEADED) || north.anyExceeds(MOST_HEADED)) {
            return FAR;
        }
        long x = up.products(east);
        long y = up.products(north);
        long moved = east.products(east) + north.products(north);
        boolean clear = 100L * (x * x + y * y) >= t * up.products(up) * moved;
        return clear ? eighth(x, y) : NONE;
    }

    // ---- packs, warnings, mooring

    public int send(int k) {
        int failure = sheetFailure(k);
        if (failure != FINE) {
            return failure;
        }
        packs.load(sheets[k]);
        return packs.size();
    }

    public int miss(int p) {
        if (p < 0 || p >= packs.size()) {
            return BAD;
        }
        return packs.forget(p) ? 1 : 0;
    }

    public int receive(int k) {
        if (!isSheet(k)) {
            return BAD;
        }
        if (!packs.wereSent()) {
            return NO;
        }
        packs.unload(sheets[k]);
        return sheets[k].lostSamples();
    }

    public int rule(int on, int off, int hold) {
        if (on <= off || hold < 0 || hold > MOST_HOLD) {
            return BAD;
        }
        warning.begin(on, off, hold);
        return 1;
    }

    public int hear(int v) {
        warning.take(v);
        return warning.state();
    }

    public int anchor(int x, int y, int r, int m) {
        if (!isPlace(x, y) || r < 0 || r > MOST_WAY || m < 1 || m > MOST_OUT) {
            return BAD;
        }
        mooring.begin(x, y, r, m);
        return 1;
    }

    public int fix(int x, int y) {
        if (!isPlace(x, y)) {
            return BAD;
        }
        mooring.take(x, y);
        return mooring.state();
    }

    public int count(int what) {
        switch (what) {
            case 0: return sheetsThere();
            case 1: return packs.size();
            case 2: return packs.lostPacks();
            case 3: return warning.heard();
            case 4: return warning.changes();
            case 5: return warning.state();
            case 6: return mooring.places();
            case 7: return mooring.outOnEnd();
            case 8: return mooring.width();
            case 9: return mooring.depth();
            default: return BAD;
        }
    }

    public long digest() {
        long h = 139;
        for (int what = 0; what < COUNTS; what++) {
            h = 31 * h + count(what);
        }
        for (int k = 0; k < SHEETS; k++) {
            if (sheets[k].isThere()) {
                h = sheets[k].digestOn(31 * h + k);
            }
        }
        for (int r = 0; r < ROWS; r++) {
            h = rows[r].digestOn(h);
        }
        return h;
    }

    // ---- what several calls need

    private static boolean isSheet(int k) {
        return k >= 0 && k < SHEETS;
    }

    private static boolean isRow(int row) {
        return row >= 0 && row < ROWS;
    }

    private static boolean isStretch(int row, int from, int to) {
        return isRow(row) && from >= 0 && to >= from;
    }

    private static boolean isWithin(long v, long size) {
        return v >= -size && v <= size;
    }

    private static boolean isPlace(int x, int y) {
        return isWithin(x, MOST_WAY) && isWithin(y, MOST_WAY);
    }

    private int sheetFailure(int k) {
        if (!isSheet(k)) {
            return BAD;
        }
        return sheets[k].isThere() ? FINE : NOTHING;
    }

    private int sampleFailure(int k, int i) {
        int failure = sheetFailure(k);
        if (failure != FINE) {
            return failure;
        }
        return sheets[k].has(i) ? FINE : PLACE;
    }

    private int sheetsThere() {
        int there = 0;
        for (int k = 0; k < SHEETS; k++) {
            if (sheets[k].isThere()) {
                there++;
            }
        }
        return there;
    }

    /** The greatest divisor of both; small is so small that trying each is plainest. */
    private static int commonDivisor(long big, int small) {
        for (int d = small; d > 1; d--) {
            if (small % d == 0 && big % d == 0) {
                return d;
            }
        }
        return 1;
    }

    private static int eighth(long x, long y) {
        if (x > y && y >= 0) {
            return 0;
        }
        if (y >= x && x > 0) {
            return 1;
        }
        if (y > -x && x <= 0) {
            return 2;
        }
        if (-x >= y && y > 0) {
            return 3;
        }
        if (-x > -y && y <= 0) {
            return 4;
        }
        if (x >= y && x < 0) {
            return 5;
        }
        if (-y > x && x >= 0) {
            return 6;
        }
        return y < 0 ? 7 : NONE;
    }

    // ---- the classes inside

    /** A SHEET: missing, or its SORT and SAMPLES. A LOST SAMPLE's number is held as 0. */
    private static final class Sheet {
        private static final int GONE = 0;
        private static final int TOLD = 1;
        private static final int FILLED = 2;

        private boolean there;
        private int sort;
        private int size;
        private final int[] values = new int[MOST];
        private final int[] states = new int[MOST];
        private final boolean[] spiky = new boolean[MOST];

        void begin(int newSort, int newSize) {
            there = true;
            sort = newSort;
            size = newSize;
            Arrays.fill(values, 0);
            Arrays.fill(states, TOLD);
        }

        int end() {
            there = false;
            return size;
        }

        boolean isThere() {
            return there;
        }

        int sort() {
            return sort;
        }

        int size() {
            return size;
        }

        boolean has(int i) {
            return i >= 0 && i < size;
        }

        boolean hasStretch(int first, int n) {
            return first >= 0 && first <= size && n <= size - first;
        }

        boolean fits(int v) {
            switch (sort) {
                case 0: return v >= -128 && v <= 127;
                case 1: return v >= -32768 && v <= 32767;
                default: return true;
            }
        }

        void tell(int i, int v) {
            values[i] = v;
            states[i] = TOLD;
        }

        void forget(int i) {
            values[i] = 0;
            states[i] = GONE;
        }

        boolean isLost(int i) {
            return states[i] == GONE;
        }

        int stateAt(int i) {
            return states[i];
        }

        int valueAt(int i) {
            return values[i];
        }

        /** arraycopy takes care of a SHEET copied on itself. */
        void take(Sheet source, int a, int b, int n) {
            System.arraycopy(source.values, a, values, b, n);
            System.arraycopy(source.states, a, states, b, n);
        }

        int loseSpikes(int d) {
            for (int i = 0; i < size; i++) {
                spiky[i] = isSpike(i, d);
            }
            int found = 0;
            for (int i = 0; i < size; i++) {
                if (spiky[i]) {
                    forget(i);
                    found++;
                }
            }
            return found;
        }

        private boolean isSpike(int i, int d) {
            if (i < 1 || i + 1 >= size || isLost(i - 1) || isLost(i) || isLost(i + 1)) {
                return false;
            }
            long bend = 2L * values[i] - values[i - 1] - values[i + 1];
            return Math.abs(bend) > 2L * d;
        }

        int fillGaps(int longest) {
            int filled = 0;
            int latest = -1;
            for (int i = 0; i < size; i++) {
                if (!isLost(i)) {
                    int gap = i - latest - 1;
                    if (latest >= 0 && gap <= longest) {
                        fillBetween(latest, i);
                        filled += gap;
                    }
                    latest = i;
                }
            }
            return filled;
        }

        private void fillBetween(int ahead, int behind) {
            long a = values[ahead];
            long rise = values[behind] - a;
            int steps = behind - ahead;
            for (int j = 1; j < steps; j++) {
                values[ahead + j] = (int) (a + rise * j / steps);
                states[ahead + j] = FILLED;
            }
        }

        int fact(int what) {
            switch (what) {
                case 0: return sort;
                case 1: return size;
                case 2: return gaps();
                case 3: return longestGap();
                case 4: return lostSamples();
                default: return samplesThatStand(FILLED);
            }
        }

        private int gaps() {
            int found = 0;
            for (int i = 0; i < size; i++) {
                if (isLost(i) && (i == 0 || !isLost(i - 1))) {
                    found++;
                }
            }
            return found;
        }

        private int longestGap() {
            int longest = 0;
            int gap = 0;
            for (int i = 0; i < size; i++) {
                gap = isLost(i) ? gap + 1 : 0;
                longest = Math.max(longest, gap);
            }
            return longest;
        }

        int lostSamples() {
            return samplesThatStand(GONE);
        }

        private int samplesThatStand(int state) {
            int found = 0;
            for (int i = 0; i < size; i++) {
                if (states[i] == state) {
                    found++;
                }
            }
            return found;
        }

        long digestOn(long start) {
            long h = start;
            for (int what = 0; what < ABOUTS; what++) {
                h = 31 * h + fact(what);
            }
            for (int i = 0; i < size; i++) {
                h = 31 * h + states[i];
                if (!isLost(i)) {
                    h = 31 * h + values[i];
                }
            }
            return h;
        }
    }

    /** A ROW. What would become of it is made in fresh, so that it stays where that is FAR. */
    private static final class Row {
        private static final long MOST_VALUE = 4000000000000000L;
        private static final long MOST_SUMMED = 4000000000L;
        private static final int TONE_BITS = 6;

        private int size;
        private final long[] values = new long[MOST];
        private final long[] fresh = new long[MOST];
        private final int[] ups = new int[MOST];
        private final long[] heights = new long[MOST];

        int size() {
            return size;
        }

        long valueAt(int i) {
            return values[i];
        }

        void take(Sheet source) {
            size = source.size();
            for (int i = 0; i < size; i++) {
                values[i] = source.valueAt(i);
            }
        }

        int change(int how) {
            boolean summing = how == 1 || how == 2;
            if (summing && size < 2 || how == 3 && !isPowerOfTwo()) {
                return NO;
            }
            if (summing && anyExceeds(MOST_SUMMED)) {
                return FAR;
            }
            switch (how) {
                case 0: makeLevel(); break;
                case 1: makeFlat(); break;
                case 2: makeTwice(); break;
                default: makeTones(); break;
            }
            return becomeFresh();
        }

        private boolean isPowerOfTwo() {
            return size > 0 && (size & (size - 1)) == 0;
        }

        private void makeLevel() {
            long all = sum();
            for (int i = 0; i < size; i++) {
                fresh[i] = size * values[i] - all;
            }
        }

        private void makeFlat() {
            long n = size;
            long squareLessOne = n * n - 1;
            long all = sum();
            long slope = 0;
            for (int k = 0; k < size; k++) {
                slope += (2 * k - n + 1) * values[k];
            }
            for (int i = 0; i < size; i++) {
                fresh[i] = n * squareLessOne * values[i] - squareLessOne * all - 3 * (2 * i - n + 1) * slope;
            }
        }

        private void makeTwice() {
            long once = 0;
            long twice = 0;
            for (int i = 0; i < size; i++) {
                fresh[i] = twice;
                once += values[i];
                twice += once;
            }
            long last = size > 0 ? fresh[size - 1] : 0;
            for (int i = 0; i < size; i++) {
                fresh[i] = (size - 1) * fresh[i] - i * last;
            }
        }

        private void makeTones() {
            for (int k = 0; k < size; k++) {
                int mask = toneMask(k);
                long all = 0;
                for (int i = 0; i < size; i++) {
                    boolean odd = (Integer.bitCount(i & mask) & 1) == 1;
                    all += odd ? -values[i] : values[i];
                }
                fresh[k] = all;
            }
        }

        private int toneMask(int k) {
            int g = k ^ (k >> 1);
            int turned = 0;
            for (int bit = 0; bit < TONE_BITS && 1 << bit < size; bit++) {
                turned = turned << 1 | (g >> bit & 1);
            }
            return turned;
        }

        private long sum() {
            long all = 0;
            for (int i = 0; i < size; i++) {
                all += values[i];
            }
            return all;
        }

        private int becomeFresh() {
            for (int i = 0; i < size; i++) {
                if (!isWithin(fresh[i], MOST_VALUE)) {
                    return FAR;
                }
            }
            System.arraycopy(fresh, 0, values, 0, size);
            return size;
        }

        int keepOnly(int from, int to) {
            int cleared = 0;
            for (int i = 0; i < size; i++) {
                if (i < from || i > to) {
                    cleared += values[i] != 0 ? 1 : 0;
                    values[i] = 0;
                }
            }
            return cleared;
        }

        /** Both products together stay below 2 to the 63: no sum here can wrap around. */
        int blend(int p, Row other, int q) {
            for (int i = 0; i < size; i++) {
                fresh[i] = p * values[i] + q * other.values[i];
            }
            return becomeFresh();
        }

        boolean anyExceeds(long most) {
            return exceeds(most, 0, MOST);
        }

        boolean exceeds(long most, int from, int to) {
            for (int i = from; i < size && i <= to; i++) {
                if (!isWithin(values[i], most)) {
                    return true;
                }
            }
            return false;
        }

        long squares(int from, int to) {
            long all = 0;
            for (int i = from; i < size && i <= to; i++) {
                all += values[i] * values[i];
            }
            return all;
        }

        long products(Row other) {
            long all = 0;
            for (int i = 0; i < size; i++) {
                all += values[i] * other.values[i];
            }
            return all;
        }

        /** Notes where the TURNS UP are: how many WAVES. */
        int findWaves() {
            int found = 0;
            int side = 0;
            for (int i = 0; i < size; i++) {
                int ahead = side;
                if (values[i] != 0) {
                    side = values[i] > 0 ? 1 : -1;
                }
                if (side == 1 && ahead == -1) {
                    ups[found] = i;
                    found++;
                }
            }
            return Math.max(found - 1, 0);
        }

        /** Of a WAVE that findWaves has just noted. */
        long waveFact(int w, int what) {
            long greatest = values[ups[w]];
            long least = greatest;
            for (int i = ups[w]; i < ups[w + 1]; i++) {
                greatest = Math.max(greatest, values[i]);
                least = Math.min(least, values[i]);
            }
            switch (what) {
                case 0: return ups[w];
                case 1: return ups[w + 1] - ups[w];
                case 2: return greatest;
                case 3: return least;
                default: return greatest - least;
            }
        }

        long highestTogether(int found, int highest) {
            for (int w = 0; w < found; w++) {
                sortIn(waveFact(w, 4), w);
            }
            long together = 0;
            for (int w = 0; w < highest; w++) {
                together += heights[w];
            }
            return together;
        }

        /** Puts a height among as many as are there already, the highest first. */
        private void sortIn(long height, int many) {
            int at = many;
            for (int w = many; w > 0 && heights[w - 1] < height; w--) {
                heights[w] = heights[w - 1];
                at = w - 1;
            }
            heights[at] = height;
        }

        int wavesInRows(long b) {
            int found = findWaves();
            int rowsOfWaves = 0;
            int run = 0;
            for (int w = 0; w < found; w++) {
                run = waveFact(w, 4) > b ? run + 1 : 0;
                if (run == 2) {
                    rowsOfWaves++;
                }
            }
            return rowsOfWaves;
        }

        int longestRowOfWaves(long b) {
            int found = findWaves();
            int longest = 0;
            int run = 0;
            for (int w = 0; w < found; w++) {
                run = waveFact(w, 4) > b ? run + 1 : 0;
                longest = Math.max(longest, run);
            }
            return longest;
        }

        long digestOn(long start) {
            long h = 31 * start + size;
            for (int i = 0; i < size; i++) {
                h = 31 * h + values[i];
            }
            return h;
        }
    }

    /** The SHEET that was SENT, and which of its PACKS are LOST. A SUM tells a PACK just as it
     *  was, so a mended one is read from the SHEET and no SUM is kept. */
    private static final class Packs {
        private static final int IN_PACK = 8;
        private static final int IN_SUM = 4;
        private static final int MOST_PACKS = 10;

        private final Sheet sent = new Sheet();
        private final boolean[] lost = new boolean[MOST_PACKS];

        void load(Sheet source) {
            sent.begin(source.sort(), source.size());
            sent.take(source, 0, 0, source.size());
            for (int p = 0; p < MOST_PACKS; p++) {
                lost[p] = false;
            }
        }

        boolean wereSent() {
            return sent.isThere();
        }

        private int samplePacks() {
            return (sent.size() + IN_PACK - 1) / IN_PACK;
        }

        int size() {
            return samplePacks() + (samplePacks() + IN_SUM - 1) / IN_SUM;
        }

        boolean forget(int p) {
            boolean was = lost[p];
            lost[p] = true;
            return !was;
        }

        int lostPacks() {
            int found = 0;
            for (int p = 0; p < MOST_PACKS; p++) {
                if (lost[p]) {
                    found++;
                }
            }
            return found;
        }

        void unload(Sheet target) {
            target.begin(sent.sort(), sent.size());
            target.take(sent, 0, 0, sent.size());
            for (int i = 0; i < sent.size(); i++) {
                if (!comes(i / IN_PACK)) {
                    target.forget(i);
                }
            }
        }

        private boolean comes(int p) {
            int sumOfIt = samplePacks() + p / IN_SUM;
            return !lost[p] || !lost[sumOfIt] && lostBeside(p) == 1;
        }

        /** How many of those that share p's SUM, with p, are LOST. */
        private int lostBeside(int p) {
            int first = p / IN_SUM * IN_SUM;
            int found = 0;
            for (int q = first; q < first + IN_SUM && q < samplePacks(); q++) {
                if (lost[q]) {
                    found++;
                }
            }
            return found;
        }
    }

    private static final class Warning {
        private int on = 100;
        private int off = 50;
        private int hold;
        private int state;
        private int heard;
        private int changes;
        private int changedAt;

        void begin(int newOn, int newOff, int newHold) {
            on = newOn;
            off = newOff;
            hold = newHold;
            state = 0;
            heard = 0;
            changes = 0;
            changedAt = 0;
        }

        void take(int v) {
            heard++;
            int next = v >= on ? 1 : v <= off ? 0 : state;
            boolean held = changes > 0 && heard - changedAt <= hold;
            if (next != state && !held) {
                state = next;
                changes++;
                changedAt = heard;
            }
        }

        int state() {
            return state;
        }

        int heard() {
            return heard;
        }

        int changes() {
            return changes;
        }
    }

    private static final class Mooring {
        private long anchorX;
        private long anchorY;
        private long reach;
        private int patience = 1;
        private int places;
        private int outOnEnd;
        private int leastX;
        private int greatestX;
        private int leastY;
        private int greatestY;

        void begin(int x, int y, int r, int m) {
            anchorX = x;
            anchorY = y;
            reach = r;
            patience = m;
            places = 0;
            outOnEnd = 0;
        }

        void take(int x, int y) {
            leastX = places == 0 ? x : Math.min(leastX, x);
            greatestX = places == 0 ? x : Math.max(greatestX, x);
            leastY = places == 0 ? y : Math.min(leastY, y);
            greatestY = places == 0 ? y : Math.max(greatestY, y);
            places++;
            outOnEnd = isOut(x, y) ? outOnEnd + 1 : 0;
        }

        private boolean isOut(long x, long y) {
            long wayX = x - anchorX;
            long wayY = y - anchorY;
            return wayX * wayX + wayY * wayY > reach * reach;
        }

        int state() {
            if (outOnEnd == 0) {
                return 0;
            }
            return outOnEnd >= patience ? 2 : 1;
        }

        int places() {
            return places;
        }

        int outOnEnd() {
            return outOnEnd;
        }

        int width() {
            return places == 0 ? 0 : greatestX - leastX;
        }

        int depth() {
            return places == 0 ? 0 : greatestY - leastY;
        }
    }
}
