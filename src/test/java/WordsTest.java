import java.util.ArrayList;
import java.util.Arrays;
import java.util.List;

/** Promises 17 and 18: mean and words, by trying words out. */
public final class WordsTest {
    private static final Due DUE = new Due("WordsTest");

    public static void main(String[] args) {
        wordsTriedOut();
        wordsEdges();
        meanTriedOut();
        meanOfSixteen();
        meanRefuses();
        DUE.end();
    }

    private static void wordsTriedOut() {
        TellingBench x = new TellingBench();
        for (int v = 0; v < 10000; v++) {
            x = v % 100 == 0 ? new TellingBench() : x;
            for (int n = 1; n <= 4; n++) {
                DUE.is("words " + n + " " + v, x.words(n, v), fit(lengths(n, v)));
            }
        }
        java.util.Random random = new java.util.Random(2);
        for (int turn = 0; turn < 20000; turn++) {
            x = turn % 500 == 0 ? new TellingBench() : x;
            int v = 0;
            for (int i = 0; i < 8; i++) {
                v = 10 * v + 1 + Math.min(8, random.nextInt(4) + random.nextInt(4));
            }
            int n = 5 + random.nextInt(4);
            DUE.is("words " + n + " " + v, x.words(n, v), fit(lengths(n, v)));
        }
    }

    private static int[] lengths(int n, int v) {
        int[] lengths = new int[n];
        int left = v;
        for (int i = 0; i < n; i++) {
            lengths[i] = left % 10;
            left /= 10;
        }
        return lengths;
    }

    /** Gives each length, the shortest first, the first free leaf of a tree of nine levels. */
    private static boolean fit(int[] lengths) {
        int[] sorted = lengths.clone();
        Arrays.sort(sorted);
        int free = 0;
        for (int length : sorted) {
            int leaves = 1 << 9 - length;
            if (free + leaves > 512) {
                return false;
            }
            free += leaves;
        }
        return true;
    }

    private static void wordsEdges() {
        TellingBench x = new TellingBench();
        DUE.yes("one empty word", x.words(1, 0));
        DUE.no("an empty word begins all", x.words(2, 90));
        DUE.yes("two", x.words(2, 11));
        DUE.no("three ones", x.words(3, 111));
        DUE.yes("eight threes", x.words(8, 33333333));
        DUE.no("a two among threes", x.words(8, 33333332));
        DUE.yes("full", x.words(8, 77654321));
        DUE.no("one more", x.words(8, 76654321));
        DUE.yes("nines", x.words(8, 99999999));
        DUE.yes("digits beyond n are not lengths", x.words(1, 1111));
        DUE.no("digits missing are nought", x.words(3, 11));
        DUE.yes("greatest v", x.words(8, Integer.MAX_VALUE));
        DUE.yes("greatest v, one length", x.words(1, Integer.MAX_VALUE));
        for (int n : new int[] {0, 9, -1, Integer.MIN_VALUE, Integer.MAX_VALUE}) {
            DUE.no("n " + n, x.words(n, 99999999));
        }
        for (int v : new int[] {-1, -11, Integer.MIN_VALUE}) {
            DUE.no("v " + v, x.words(2, v));
        }
    }

    private static void meanTriedOut() {
        java.util.Random random = new java.util.Random(4);
        for (int turn = 0; turn < 400; turn++) {
            TellingBench x = new TellingBench();
            int[] weights = new int[27];
            x.world(1, 3, 3, 3);
            int total = 1 + random.nextInt(16);
            int cells = 1 + random.nextInt(6);
            for (int i = 0; i < total; i++) {
                weights[random.nextInt(cells) * 4]++;
            }
            for (int i = 0; i < 27; i++) {
                x.weight(1, i % 3, i / 3 % 3, i / 9, weights[i]);
            }
            for (int set = 1; set < 8; set++) {
                DUE.is("mean of set " + set, x.mean(1, set), leastTried(Model.sumsOf(weights, set)));
            }
        }
    }

    /** The least of weight times length over all lengths of up to five bits for which words fit. */
    private static int leastTried(List<Integer> weights) {
        List<Integer> falling = new ArrayList<>(weights);
        falling.sort((p, q) -> q - p);
        return leastTried(falling, 0, 0, 0, 0);
    }

    private static int leastTried(List<Integer> falling, int at, int from, int used, int bits) {
        if (used > 32) {
            return Integer.MAX_VALUE;
        }
        if (at == falling.size()) {
            return bits;
        }
        int least = Integer.MAX_VALUE;
        for (int length = from; length <= 5; length++) {
            int tried = leastTried(falling, at + 1, length, used + (32 >> length), bits + length * falling.get(at));
            least = Math.min(least, tried);
        }
        return least;
    }

    private static void meanOfSixteen() {
        TellingBench x = new TellingBench();
        x.world(0, 3, 3, 2);
        for (int i = 0; i < 16; i++) {
            DUE.yes("weight", x.weight(0, i % 3, i / 3 % 3, i / 9, 1));
        }
        DUE.is("sixteen words of four bits", x.mean(0, 7), 64);
        DUE.is("two words", x.mean(0, 4), 16);
        x.world(1, 3, 1, 1);
        x.weight(1, 2, 0, 0, 16);
        DUE.is("one word without a bit", x.mean(1, 1), 0);
        DUE.is("one word without a bit", x.mean(1, 7), 0);
        x.weight(1, 2, 0, 0, 15);
        x.weight(1, 0, 0, 0, 1);
        DUE.is("two words", x.mean(1, 3), 16);
    }

    private static void meanRefuses() {
        TellingBench x = new TellingBench();
        x.world(0, 1, 1, 1);
        DUE.is("not made", x.mean(0, 1), -1);
        x.weight(0, 0, 0, 0, 1);
        for (int set : new int[] {0, 8, -1, Integer.MIN_VALUE, Integer.MAX_VALUE}) {
            DUE.is("set", x.mean(0, set), -1);
        }
        for (int g : new int[] {1, 4, -1, Integer.MIN_VALUE, Integer.MAX_VALUE}) {
            DUE.is("world", x.mean(g, 1), -1);
        }
    }
}
