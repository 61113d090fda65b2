import java.math.BigInteger;
import java.util.ArrayList;
import java.util.Collections;
import java.util.List;

/** The document told a second time, as plainly as may be and with other means than the class:
 *  numbers without end, PACKS that are really summed, all that is heard and told kept. */
final class Model {
    private static final BigInteger MOST = BigInteger.valueOf(4000000000000000L);
    private static final long[][] ENDS = {{-128, 127}, {-32768, 32767}, {Integer.MIN_VALUE, Integer.MAX_VALUE}};

    static final class Sample {
        final int stands;
        final long number;

        Sample(int stands, long number) {
            this.stands = stands;
            this.number = number;
        }
    }

    static final class Sheet {
        int sort;
        List<Sample> samples = new ArrayList<>();

        Sheet(int sort) {
            this.sort = sort;
        }

        boolean lost(int i) {
            return samples.get(i).stands == 0;
        }

        int many(int stands) {
            int many = 0;
            for (Sample s : samples) {
                many += s.stands == stands ? 1 : 0;
            }
            return many;
        }

        /** Each GAP as where it begins and where it ends (not with that). */
        List<int[]> gaps() {
            List<int[]> gaps = new ArrayList<>();
            for (int i = 0; i < samples.size(); i++) {
                int end = i;
                while (end < samples.size() && lost(end)) {
                    end++;
                }
                if (end > i) {
                    gaps.add(new int[] {i, end});
                    i = end;
                }
            }
            return gaps;
        }
    }

    private final Sheet[] sheets = new Sheet[8];
    private final List<List<BigInteger>> rows = new ArrayList<>();
    private List<long[][]> packs;
    private boolean[] gone;
    private int sentSort;
    private int sentSize;
    private int on = 100;
    private int off = 50;
    private int hold;
    private final List<Integer> warnings = new ArrayList<>();
    private int[] anchor = {0, 0, 0, 1};
    private final List<int[]> places = new ArrayList<>();

    Model() {
        for (int row = 0; row < 6; row++) {
            rows.add(new ArrayList<>());
        }
    }

    private static boolean in(long v, long least, long greatest) {
        return v >= least && v <= greatest;
    }

    private int failure(boolean numbersAreFine, int... ks) {
        boolean fine = numbersAreFine;
        for (int k : ks) {
            fine &= in(k, 0, 7);
        }
        if (!fine) {
            return WaveBuoys.BAD;
        }
        for (int k : ks) {
            if (sheets[k] == null) {
                return WaveBuoys.NOTHING;
            }
        }
        return 0;
    }

    private int placeFailure(int k, int i) {
        int failure = failure(true, k);
        return failure != 0 ? failure : in(i, 0, sheets[k].samples.size() - 1) ? 0 : WaveBuoys.PLACE;
    }

    int sheet(int k, int sort, int n) {
        if (!in(k, 0, 7) || !in(sort, 0, 2) || n > 64) {
            return WaveBuoys.BAD;
        }
        if (n < 0) {
            return WaveBuoys.SIZE;
        }
        sheets[k] = new Sheet(sort);
        for (int i = 0; i < n; i++) {
            sheets[k].samples.add(new Sample(1, 0));
        }
        return 1;
    }

    int drop(int k) {
        int failure = failure(true, k);
        if (failure != 0) {
            return failure;
        }
        int n = sheets[k].samples.size();
        sheets[k] = null;
        return n;
    }

    int put(int k, int i, int v) {
        int failure = placeFailure(k, i);
        if (failure != 0) {
            return failure;
        }
        long[] ends = ENDS[sheets[k].sort];
        if (!in(v, ends[0], ends[1])) {
            return WaveBuoys.WIDE;
        }
        sheets[k].samples.set(i, new Sample(1, v));
        return 1;
    }

    long get(int k, int i) {
        int failure = placeFailure(k, i);
        if (failure == 0 && sheets[k].lost(i)) {
            failure = WaveBuoys.LOST;
        }
        return failure != 0 ? WaveBuoys.FAILED + failure : sheets[k].samples.get(i).number;
    }

    int lose(int k, int i) {
        int failure = placeFailure(k, i);
        if (failure != 0) {
            return failure;
        }
        Sample was = sheets[k].samples.set(i, new Sample(0, 0));
        return was.stands == 0 ? 0 : 1;
    }

    int stands(int k, int i) {
        int failure = placeFailure(k, i);
        return failure != 0 ? failure : sheets[k].samples.get(i).stands;
    }

    int copy(int from, int a, int to, int b, int n) {
        int failure = failure(true, from, to);
        if (failure != 0) {
            return failure;
        }
        if (sheets[from].sort != sheets[to].sort) {
            return WaveBuoys.UNLIKE;
        }
        if (n < 0) {
            return WaveBuoys.SIZE;
        }
        if (a < 0 || b < 0 || (long) a + n > sheets[from].samples.size() || (long) b + n > sheets[to].samples.size()) {
            return WaveBuoys.PLACE;
        }
        List<Sample> taken = new ArrayList<>(sheets[from].samples.subList(a, a + n));
        for (int i = 0; i < n; i++) {
            sheets[to].samples.set(b + i, taken.get(i));
        }
        return n;
    }

    int spikes(int k, int d) {
        int failure = failure(d >= 0, k);
        if (failure != 0) {
            return failure;
        }
        List<Sample> was = new ArrayList<>(sheets[k].samples);
        int found = 0;
        for (int i = 1; i < was.size() - 1; i++) {
            boolean whole = was.get(i - 1).stands != 0 && was.get(i).stands != 0 && was.get(i + 1).stands != 0;
            BigInteger bend = BigInteger.valueOf(2).multiply(BigInteger.valueOf(was.get(i).number))
                .subtract(BigInteger.valueOf(was.get(i - 1).number)).subtract(BigInteger.valueOf(was.get(i + 1).number));
            if (whole && bend.abs().compareTo(BigInteger.valueOf(2L * d)) > 0) {
                sheets[k].samples.set(i, new Sample(0, 0));
                found++;
            }
        }
        return found;
    }

    int fill(int k, int m) {
        int failure = failure(in(m, 0, 64), k);
        if (failure != 0) {
            return failure;
        }
        List<Sample> samples = sheets[k].samples;
        int filled = 0;
        for (int[] gap : sheets[k].gaps()) {
            int long_ = gap[1] - gap[0];
            if (gap[0] > 0 && gap[1] < samples.size() && long_ <= m) {
                BigInteger a = BigInteger.valueOf(samples.get(gap[0] - 1).number);
                BigInteger b = BigInteger.valueOf(samples.get(gap[1]).number);
                for (int j = 1; j <= long_; j++) {
                    BigInteger rise = b.subtract(a).multiply(BigInteger.valueOf(j)).divide(BigInteger.valueOf(long_ + 1));
                    samples.set(gap[0] + j - 1, new Sample(2, a.add(rise).longValueExact()));
                    filled++;
                }
            }
        }
        return filled;
    }

    int about(int k, int what) {
        int failure = failure(in(what, 0, 5), k);
        if (failure != 0) {
            return failure;
        }
        Sheet s = sheets[k];
        int longest = 0;
        for (int[] gap : s.gaps()) {
            longest = Math.max(longest, gap[1] - gap[0]);
        }
        int[] facts = {s.sort, s.samples.size(), s.gaps().size(), longest, s.many(0), s.many(2)};
        return facts[what];
    }

    int raise(int k, int row) {
        int failure = failure(in(row, 0, 5), k);
        if (failure != 0) {
            return failure;
        }
        if (sheets[k].many(0) > 0) {
            return WaveBuoys.LOST;
        }
        List<BigInteger> numbers = new ArrayList<>();
        for (Sample s : sheets[k].samples) {
            numbers.add(BigInteger.valueOf(s.number));
        }
        rows.set(row, numbers);
        return numbers.size();
    }

    long number(int row, int i) {
        if (!in(row, 0, 5)) {
            return WaveBuoys.FAILED + WaveBuoys.BAD;
        }
        return in(i, 0, rows.get(row).size() - 1) ? rows.get(row).get(i).longValueExact() : WaveBuoys.FAILED + WaveBuoys.PLACE;
    }

    private static boolean far(List<BigInteger> numbers, BigInteger most) {
        for (BigInteger x : numbers) {
            if (x.abs().compareTo(most) > 0) {
                return true;
            }
        }
        return false;
    }

    private int become(int row, List<BigInteger> numbers) {
        if (far(numbers, MOST)) {
            return WaveBuoys.FAR;
        }
        rows.set(row, numbers);
        return numbers.size();
    }

    int turn(int row, int how) {
        if (!in(row, 0, 5) || !in(how, 0, 3)) {
            return WaveBuoys.BAD;
        }
        List<BigInteger> x = rows.get(row);
        int n = x.size();
        if ((how == 1 || how == 2) && n < 2 || how == 3 && !(n == 1 || n == 2 || n == 4 || n == 8 || n == 16 || n == 32 || n == 64)) {
            return WaveBuoys.NO;
        }
        if ((how == 1 || how == 2) && far(x, BigInteger.valueOf(4000000000L))) {
            return WaveBuoys.FAR;
        }
        List<BigInteger> made = new ArrayList<>();
        for (int i = 0; i < n; i++) {
            BigInteger sum = BigInteger.ZERO;
            for (int k = 0; k < n; k++) {
                sum = sum.add(x.get(k).multiply(BigInteger.valueOf(weight(n, how, i, k))));
            }
            made.add(sum);
        }
        return become(row, made);
    }

    /** How often number k goes into what number i becomes. */
    private static long weight(long n, int how, int i, int k) {
        if (how == 0) {
            return (i == k ? n : 0) - 1;
        }
        if (how == 1) {
            return (i == k ? n * (n * n - 1) : 0) - (n * n - 1) - 3 * (2 * i - n + 1) * (2 * k - n + 1);
        }
        if (how == 2) {
            return (n - 1) * Math.max(i - k, 0) - i * Math.max(n - 1 - k, 0);
        }
        int g = i ^ i / 2;
        int bits = Integer.toBinaryString((int) n - 1).length();
        boolean odd = false;
        for (int bit = 0; bit < bits; bit++) {
            odd ^= (g >> bit) % 2 == 1 && (k >> (bits - 1 - bit)) % 2 == 1;
        }
        return odd ? -1 : 1;
    }

    int part(int row, int from, int to) {
        if (!in(row, 0, 5) || from < 0 || to < from) {
            return WaveBuoys.BAD;
        }
        int found = 0;
        for (int i = 0; i < rows.get(row).size(); i++) {
            if (!in(i, from, to)) {
                found += rows.get(row).set(i, BigInteger.ZERO).signum() != 0 ? 1 : 0;
            }
        }
        return found;
    }

    int mix(int row, int p, int other, int q) {
        if (!in(row, 0, 5) || !in(other, 0, 5) || !in(p, -1000, 1000) || !in(q, -1000, 1000)) {
            return WaveBuoys.BAD;
        }
        if (rows.get(row).size() != rows.get(other).size()) {
            return WaveBuoys.NO;
        }
        List<BigInteger> made = new ArrayList<>();
        for (int i = 0; i < rows.get(row).size(); i++) {
            made.add(rows.get(row).get(i).multiply(BigInteger.valueOf(p)).add(rows.get(other).get(i).multiply(BigInteger.valueOf(q))));
        }
        return become(row, made);
    }

    long force(int row, int from, int to) {
        if (!in(row, 0, 5) || from < 0 || to < from) {
            return WaveBuoys.FAILED + WaveBuoys.BAD;
        }
        List<BigInteger> x = rows.get(row);
        int end = Math.min(to, x.size() - 1);
        List<BigInteger> these = from > end ? new ArrayList<>() : x.subList(from, end + 1);
        return far(these, BigInteger.valueOf(200000000)) ? WaveBuoys.FAILED + WaveBuoys.FAR : product(these, these).longValueExact();
    }

    private static BigInteger product(List<BigInteger> x, List<BigInteger> y) {
        BigInteger sum = BigInteger.ZERO;
        for (int i = 0; i < x.size(); i++) {
            sum = sum.add(x.get(i).multiply(y.get(i)));
        }
        return sum;
    }

    long cross(int row, int other) {
        if (!in(row, 0, 5) || !in(other, 0, 5)) {
            return WaveBuoys.FAILED + WaveBuoys.BAD;
        }
        List<BigInteger> x = rows.get(row);
        List<BigInteger> y = rows.get(other);
        if (x.size() != y.size()) {
            return WaveBuoys.FAILED + WaveBuoys.NO;
        }
        BigInteger most = BigInteger.valueOf(200000000);
        return far(x, most) || far(y, most) ? WaveBuoys.FAILED + WaveBuoys.FAR : product(x, y).longValueExact();
    }

    private static int side(List<BigInteger> x, int i) {
        return x.get(i).signum() != 0 || i == 0 ? x.get(i).signum() : side(x, i - 1);
    }

    /** Each WAVE as where it begins, how many, greatest, least, HEIGHT. */
    private List<long[]> wavesOf(int row) {
        List<BigInteger> x = rows.get(row);
        List<Integer> ups = new ArrayList<>();
        for (int i = 1; i < x.size(); i++) {
            if (side(x, i) == 1 && side(x, i - 1) == -1) {
                ups.add(i);
            }
        }
        List<long[]> found = new ArrayList<>();
        for (int w = 1; w < ups.size(); w++) {
            List<BigInteger> numbers = x.subList(ups.get(w - 1), ups.get(w));
            long greatest = Collections.max(numbers).longValueExact();
            long least = Collections.min(numbers).longValueExact();
            found.add(new long[] {ups.get(w - 1), numbers.size(), greatest, least, greatest - least});
        }
        return found;
    }

    int waves(int row) {
        return in(row, 0, 5) ? wavesOf(row).size() : WaveBuoys.BAD;
    }

    long wave(int row, int w, int what) {
        if (!in(row, 0, 5) || !in(what, 0, 4)) {
            return WaveBuoys.FAILED + WaveBuoys.BAD;
        }
        return in(w, 0, wavesOf(row).size() - 1) ? wavesOf(row).get(w)[what] : WaveBuoys.FAILED + WaveBuoys.PLACE;
    }

    long third(int row, int what) {
        if (!in(row, 0, 5) || !in(what, 0, 1)) {
            return WaveBuoys.FAILED + WaveBuoys.BAD;
        }
        List<BigInteger> heights = new ArrayList<>();
        for (long[] wave : wavesOf(row)) {
            heights.add(BigInteger.valueOf(wave[4]));
        }
        if (heights.isEmpty()) {
            return WaveBuoys.FAILED + WaveBuoys.NO;
        }
        Collections.sort(heights, Collections.reverseOrder());
        int many = Math.max(1, heights.size() / 3);
        BigInteger above = BigInteger.ZERO;
        for (int w = 0; w < many; w++) {
            above = above.add(heights.get(w));
        }
        BigInteger below = BigInteger.valueOf(many);
        BigInteger shared = above.gcd(below);
        return (what == 0 ? above : below).divide(shared).longValueExact();
    }

    int groups(int row, long b, int what) {
        if (!in(row, 0, 5) || !in(what, 0, 1)) {
            return WaveBuoys.BAD;
        }
        StringBuilder high = new StringBuilder();
        for (long[] wave : wavesOf(row)) {
            high.append(wave[4] > b ? 'h' : ' ');
        }
        int many = 0;
        int longest = 0;
        for (String run : high.toString().split(" ")) {
            many += run.length() >= 2 ? 1 : 0;
            longest = Math.max(longest, run.length());
        }
        return what == 0 ? many : longest;
    }

    int heading(int h, int e, int n, int t) {
        if (!in(h, 0, 5) || !in(e, 0, 5) || !in(n, 0, 5) || !in(t, 1, 100)) {
            return WaveBuoys.BAD;
        }
        List<BigInteger> up = rows.get(h);
        List<BigInteger> east = rows.get(e);
        List<BigInteger> north = rows.get(n);
        if (up.size() != east.size() || up.size() != north.size()) {
            return WaveBuoys.NO;
        }
        BigInteger most = BigInteger.valueOf(1000);
        if (far(up, most) || far(east, most) || far(north, most)) {
            return WaveBuoys.FAR;
        }
        BigInteger x = product(up, east);
        BigInteger y = product(up, north);
        BigInteger told = x.multiply(x).add(y.multiply(y)).multiply(BigInteger.valueOf(100));
        BigInteger needed = product(up, up).multiply(product(east, east).add(product(north, north))).multiply(BigInteger.valueOf(t));
        if (told.compareTo(needed) < 0 || x.signum() == 0 && y.signum() == 0) {
            return WaveBuoys.NONE;
        }
        return eighth(x, y);
    }

    /** Turned back by quarters until it lies in the first one. */
    private static int eighth(BigInteger x, BigInteger y) {
        int quarters = 0;
        while (!(x.signum() > 0 && y.signum() >= 0)) {
            BigInteger turned = y;
            y = x.negate();
            x = turned;
            quarters++;
        }
        return 2 * quarters + (y.compareTo(x) >= 0 ? 1 : 0);
    }

    int send(int k) {
        int failure = failure(true, k);
        if (failure != 0) {
            return failure;
        }
        packs = new ArrayList<>();
        sentSort = sheets[k].sort;
        sentSize = sheets[k].samples.size();
        for (int first = 0; first < sentSize; first += 8) {
            long[][] pack = new long[8][3];
            for (int i = first; i < first + 8 && i < sentSize; i++) {
                Sample s = sheets[k].samples.get(i);
                pack[i - first] = new long[] {s.number, s.stands == 1 ? 1 : 0, s.stands == 2 ? 1 : 0};
            }
            packs.add(pack);
        }
        int data = packs.size();
        for (int first = 0; first < data; first += 4) {
            packs.add(xorOf(packs.subList(first, Math.min(first + 4, data))));
        }
        gone = new boolean[packs.size()];
        return packs.size();
    }

    private static long[][] xorOf(List<long[][]> some) {
        long[][] sum = new long[8][3];
        for (long[][] pack : some) {
            for (int place = 0; place < 8; place++) {
                for (int of = 0; of < 3; of++) {
                    sum[place][of] ^= pack[place][of];
                }
            }
        }
        return sum;
    }

    int miss(int p) {
        if (packs == null || !in(p, 0, packs.size() - 1)) {
            return WaveBuoys.BAD;
        }
        boolean was = gone[p];
        gone[p] = true;
        return was ? 0 : 1;
    }

    int receive(int k) {
        if (!in(k, 0, 7)) {
            return WaveBuoys.BAD;
        }
        if (packs == null) {
            return WaveBuoys.NO;
        }
        int data = (sentSize + 7) / 8;
        sheets[k] = new Sheet(sentSort);
        for (int p = 0; p < data; p++) {
            long[][] pack = gone[p] ? mend(p, data) : packs.get(p);
            for (int place = 0; place < 8 && 8 * p + place < sentSize; place++) {
                long[] s = pack[place];
                sheets[k].samples.add(new Sample(s[1] == 1 ? 1 : s[2] == 1 ? 2 : 0, s[0]));
            }
        }
        return sheets[k].many(0);
    }

    private long[][] mend(int p, int data) {
        List<long[][]> others = new ArrayList<>();
        boolean all = !gone[data + p / 4];
        others.add(packs.get(data + p / 4));
        for (int q = p / 4 * 4; q < p / 4 * 4 + 4 && q < data; q++) {
            if (q != p) {
                all &= !gone[q];
                others.add(packs.get(q));
            }
        }
        return all ? xorOf(others) : new long[8][3];
    }

    int rule(int newOn, int newOff, int newHold) {
        if (newOn <= newOff || !in(newHold, 0, 1000)) {
            return WaveBuoys.BAD;
        }
        on = newOn;
        off = newOff;
        hold = newHold;
        warnings.clear();
        return 1;
    }

    private int warningAfter(int heard) {
        return heard == 0 ? 0 : warnings.get(heard - 1);
    }

    int hear(int v) {
        int heard = warnings.size();
        boolean held = false;
        for (int back = heard; back > heard - hold && back > 0; back--) {
            held |= warningAfter(back) != warningAfter(back - 1);
        }
        int now = warningAfter(heard);
        warnings.add(held ? now : v >= on ? 1 : v <= off ? 0 : now);
        return warningAfter(heard + 1);
    }

    int anchor(int x, int y, int r, int m) {
        if (!in(x, -1000000, 1000000) || !in(y, -1000000, 1000000) || !in(r, 0, 1000000) || !in(m, 1, 100)) {
            return WaveBuoys.BAD;
        }
        anchor = new int[] {x, y, r, m};
        places.clear();
        return 1;
    }

    private int outOnEnd() {
        int out = 0;
        for (int i = places.size() - 1; i >= 0; i--) {
            BigInteger x = BigInteger.valueOf(places.get(i)[0] - anchor[0]);
            BigInteger y = BigInteger.valueOf(places.get(i)[1] - anchor[1]);
            if (x.pow(2).add(y.pow(2)).compareTo(BigInteger.valueOf(anchor[2]).pow(2)) <= 0) {
                return out;
            }
            out++;
        }
        return out;
    }

    int fix(int x, int y) {
        if (!in(x, -1000000, 1000000) || !in(y, -1000000, 1000000)) {
            return WaveBuoys.BAD;
        }
        places.add(new int[] {x, y});
        int out = outOnEnd();
        return out == 0 ? 0 : out >= anchor[3] ? 2 : 1;
    }

    private int spread(int of) {
        List<Integer> told = new ArrayList<>();
        for (int[] place : places) {
            told.add(place[of]);
        }
        return told.isEmpty() ? 0 : Collections.max(told) - Collections.min(told);
    }

    int count(int what) {
        int there = 0;
        for (Sheet s : sheets) {
            there += s != null ? 1 : 0;
        }
        int lost = 0;
        for (int p = 0; packs != null && p < packs.size(); p++) {
            lost += gone[p] ? 1 : 0;
        }
        int changes = 0;
        for (int heard = 1; heard <= warnings.size(); heard++) {
            changes += warningAfter(heard) != warningAfter(heard - 1) ? 1 : 0;
        }
        int[] counts = {there, packs == null ? 0 : packs.size(), lost, warnings.size(), changes, warningAfter(warnings.size()),
            places.size(), outOnEnd(), spread(0), spread(1)};
        return in(what, 0, 9) ? counts[what] : WaveBuoys.BAD;
    }

    long digest() {
        List<Long> all = new ArrayList<>();
        for (int what = 0; what < 10; what++) {
            all.add((long) count(what));
        }
        for (int k = 0; k < 8; k++) {
            if (sheets[k] != null) {
                all.add((long) k);
                for (int what = 0; what < 6; what++) {
                    all.add((long) about(k, what));
                }
                for (Sample s : sheets[k].samples) {
                    all.add((long) s.stands);
                    if (s.stands != 0) {
                        all.add(s.number);
                    }
                }
            }
        }
        for (List<BigInteger> row : rows) {
            all.add((long) row.size());
            for (BigInteger x : row) {
                all.add(x.longValueExact());
            }
        }
        BigInteger h = BigInteger.valueOf(139);
        for (long v : all) {
            h = h.multiply(BigInteger.valueOf(31)).add(BigInteger.valueOf(v));
        }
        return h.longValue();
    }
}
