import java.util.Arrays;

/** SHEETS and ROWS that tests begin with, and SHEETS and ROWS told as words. */
final class Made {
    private Made() {
    }

    /** A new object with SHEET 0, as the other does it. */
    static WaveBuoys sheet(int sort, String words) {
        WaveBuoys x = new WaveBuoys();
        sheet(x, 0, sort, words);
        return x;
    }

    /** Makes a SHEET of words: a number, f and a number where it is FILLED, - where it is LOST;
     *  "" is one of no SAMPLES. Another SHEET (6 or 5) helps, and is missing behind it. */
    static void sheet(WaveBuoys x, int k, int sort, String words) {
        String[] word = words.isEmpty() ? new String[0] : words.split(" ");
        x.sheet(k, sort, word.length);
        for (int i = 0; i < word.length; i++) {
            if (word[i].equals("-")) {
                x.lose(k, i);
            } else if (word[i].startsWith("f")) {
                filled(x, k, i, sort, Integer.parseInt(word[i].substring(1)));
            } else if (!word[i].equals("0")) {
                x.put(k, i, Integer.parseInt(word[i]));
            }
        }
    }

    private static void filled(WaveBuoys x, int k, int i, int sort, int v) {
        int helper = k == 6 ? 5 : 6;
        x.sheet(helper, sort, 3);
        x.put(helper, 0, v);
        x.put(helper, 2, v);
        x.lose(helper, 1);
        x.fill(helper, 1);
        x.copy(helper, 1, k, i, 1);
        x.drop(helper);
    }

    /** A SHEET told in the words of which sheet() makes one; "missing" where it is. */
    static String words(WaveBuoys x, int k) {
        int n = x.about(k, 1);
        if (n < 0) {
            return "missing";
        }
        StringBuilder words = new StringBuilder();
        for (int i = 0; i < n; i++) {
            int stands = x.stands(k, i);
            words.append(i > 0 ? " " : "").append(stands == 2 ? "f" : "");
            words.append(stands == 0 ? "-" : Long.toString(x.get(k, i)));
        }
        return words.toString();
    }

    /** A word told n times. */
    static String times(int n, String word) {
        return String.join(" ", java.util.Collections.nCopies(n, word));
    }

    /** A new object with ROW 0, as the other does it. */
    static WaveBuoys row(long... numbers) {
        WaveBuoys x = new WaveBuoys();
        row(x, 0, numbers);
        return x;
    }

    /** Makes a ROW of numbers. SHEET 7 helps and is missing behind it; of numbers that are no ints
     *  another ROW (5 or 4) helps, too. */
    static void row(WaveBuoys x, int row, long... numbers) {
        boolean wide = false;
        for (long v : numbers) {
            wide |= v != (int) v;
        }
        if (!wide) {
            rowOfInts(x, row, numbers, 1, 0);
            return;
        }
        int helper = row == 5 ? 4 : 5;
        rowOfInts(x, row, numbers, 1000000000L, 0);
        for (long by = 1000000; by > 0; by /= 1000) {
            rowOfInts(x, helper, numbers, by, 1000);
            x.mix(row, 1000, helper, 1);
        }
    }

    private static void rowOfInts(WaveBuoys x, int row, long[] numbers, long by, long rest) {
        x.sheet(7, 2, numbers.length);
        for (int i = 0; i < numbers.length; i++) {
            long v = rest == 0 ? numbers[i] / by : numbers[i] / by % rest;
            if (v != 0) {
                x.put(7, i, (int) v);
            }
        }
        x.raise(7, row);
        x.drop(7);
    }

    /** A ROW's numbers, as words. */
    static String numbers(WaveBuoys x, int row) {
        StringBuilder words = new StringBuilder();
        for (int i = 0; i < 64 && x.number(row, i) != WaveBuoys.FAILED + WaveBuoys.PLACE; i++) {
            words.append(i > 0 ? " " : "").append(x.number(row, i));
        }
        return words.toString();
    }

    static String numbers(long... numbers) {
        StringBuilder words = new StringBuilder();
        for (int i = 0; i < numbers.length; i++) {
            words.append(i > 0 ? " " : "").append(numbers[i]);
        }
        return words.toString();
    }

    /** As many numbers, each v. */
    static long[] all(int n, long v) {
        long[] numbers = new long[n];
        Arrays.fill(numbers, v);
        return numbers;
    }

    /** Numbers with WAVES of these HEIGHTS (2 or more each), each of two numbers. */
    static long[] heights(long... heights) {
        long[] numbers = all(2 * heights.length + 2, -1);
        for (int w = 0; w < heights.length; w++) {
            numbers[2 * w + 1] = heights[w] - 1;
        }
        numbers[numbers.length - 1] = 1;
        return numbers;
    }
}
