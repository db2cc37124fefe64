import java.util.Arrays;

/** Worlds to ask of, numbers that lie outside, and all that a bench tells of itself. */
final class Scene {
    private Scene() {
    }

    /** Just below, just above, once round by the range, a byte or a short, and as far as it goes. */
    static int[] outside(int from, int to) {
        int range = to - from + 1;
        int[] tried = {
            from - 1, to + 1, from - range, to + range, from + 256, to + 256, from + 65536, from - 65536,
            Integer.MIN_VALUE, Integer.MIN_VALUE + from, Integer.MIN_VALUE + 1, Integer.MAX_VALUE - 1, Integer.MAX_VALUE,
        };
        return Arrays.stream(tried).filter(x -> x < from || x > to).distinct().toArray();
    }

    /** Makes a world with these weights, the first those of the settings of A, then of B, then of C. */
    static void make(TellingBench x, int g, int a, int b, int c, int... weights) {
        boolean taken = x.world(g, a, b, c);
        for (int i = 0; i < weights.length; i++) {
            taken &= weights[i] == 0 || x.weight(g, i % a, i / a % b, i / a / b, weights[i]);
        }
        if (!taken) {
            throw new IllegalStateException("the scene's world " + g + " was not taken");
        }
    }

    /** A law's numbers, for the sets 1 to 7. */
    static void put(TellingBench x, int l, int... numbers) {
        boolean taken = true;
        for (int i = 0; i < numbers.length; i++) {
            taken &= x.law(l, i + 1, numbers[i]);
        }
        if (!taken) {
            throw new IllegalStateException("the scene's law " + l + " was not taken");
        }
    }

    /** A bench that has something to lose in each of its parts: 28 calls, world 3 being untold. */
    static TellingBench full() {
        TellingBench x = new TellingBench();
        make(x, 0, 2, 2, 2, 1, 0, 0, 2, 0, 3, 4, 0);
        make(x, 1, 3, 1, 2, 0, 0, 5, 0, 6, 0);
        make(x, 2, 1, 3, 1, 16);
        put(x, 0, 1, -2, -1, 2, 1, -2, 2);
        put(x, 4, 2, 2, 1, -1, -1, -2, 1);
        put(x, 8, -1, 0);
        if (!x.plain(9, 0) || !x.prove(9)) {
            throw new IllegalStateException("the scene's law 9 was not proved");
        }
        return x;
    }

    /** All that a bench tells of its worlds: 128 calls. */
    static String worlds(TellingBench x) {
        StringBuilder all = new StringBuilder();
        for (int g = 0; g < 4; g++) {
            for (int what = 0; what <= 36; what = what == 4 ? 10 : what + 1) {
                all.append(x.told(g, what)).append(' ');
            }
            all.append("| ");
        }
        return all.toString();
    }

    /** All that a bench tells of its laws: 70 calls. */
    static String laws(TellingBench x) {
        StringBuilder all = new StringBuilder();
        for (int l = 0; l < 10; l++) {
            for (int set = 1; set < 8; set++) {
                all.append(x.number(l, set)).append(' ');
            }
            all.append("| ");
        }
        return all.toString();
    }

    /** All shares: 18 calls. */
    static String shares(TellingBench x) {
        StringBuilder all = new StringBuilder();
        for (int k = 0; k < 9; k++) {
            all.append(x.share(k, 0)).append('/').append(x.share(k, 1)).append(' ');
        }
        return all.toString();
    }

    /** All of it: 216 calls, so that a bench is asked at most twice. */
    static String all(TellingBench x) {
        return worlds(x) + laws(x) + shares(x);
    }
}
