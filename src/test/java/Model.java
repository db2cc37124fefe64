import java.math.BigInteger;
import java.util.ArrayList;
import java.util.Arrays;
import java.util.HashMap;
import java.util.List;
import java.util.Map;
import java.util.TreeMap;

/**
 * The document again, written in another way than the class: doubts as products of fractions in
 * big whole numbers, plain ones and rows by what the document says of sets, shares by elimination.
 */
final class Model {
    static final int SETTINGS = 27;

    final int[][] states = new int[4][3];
    final int[][] weights = new int[4][SETTINGS];
    final int[][] laws = new int[10][8];
    Fraction[] shares = null;

    /** A fraction of big whole numbers in lowest terms, its lower number above 0. */
    record Fraction(BigInteger up, BigInteger low) {
        static Fraction of(BigInteger up, BigInteger low) {
            BigInteger common = up.gcd(low);
            BigInteger sign = low.signum() < 0 ? common.negate() : common;
            return new Fraction(up.divide(sign), low.divide(sign));
        }

        static Fraction of(long up) {
            return new Fraction(BigInteger.valueOf(up), BigInteger.ONE);
        }

        Fraction times(Fraction o) {
            return of(up.multiply(o.up), low.multiply(o.low));
        }

        Fraction by(Fraction o) {
            return of(up.multiply(o.low), low.multiply(o.up));
        }

        Fraction less(Fraction o) {
            return of(up.multiply(o.low).subtract(o.up.multiply(low)), low.multiply(o.low));
        }
    }

    static boolean in(int x, int from, int to) {
        return x >= from && x <= to;
    }

    int total(int g) {
        return Arrays.stream(weights[g]).sum();
    }

    boolean made(int g) {
        return in(g, 0, 3) && total(g) > 0;
    }

    boolean world(int g, int a, int b, int c) {
        if (!in(g, 0, 3) || !in(a, 1, 3) || !in(b, 1, 3) || !in(c, 1, 3)) {
            return false;
        }
        states[g] = new int[] {a, b, c};
        weights[g] = new int[SETTINGS];
        return true;
    }

    boolean weight(int g, int a, int b, int c, int w) {
        if (!in(g, 0, 3) || !in(w, 0, 16)) {
            return false;
        }
        if (!in(a, 0, states[g][0] - 1) || !in(b, 0, states[g][1] - 1) || !in(c, 0, states[g][2] - 1)) {
            return false;
        }
        int[] next = weights[g].clone();
        next[a + 3 * b + 9 * c] = w;
        if (Arrays.stream(next).sum() > 16) {
            return false;
        }
        weights[g] = next;
        return true;
    }

    int told(int g, int what) {
        if (!in(g, 0, 3)) {
            return -1;
        }
        return switch (what) {
            case 0 -> made(g) ? 1 : 0;
            case 1, 2, 3 -> states[g][what - 1];
            case 4 -> total(g);
            default -> toldOfSettings(g).getOrDefault(what, -1);
        };
    }

    /** By what told() is asked: the weights of those settings alone that the world has. */
    private Map<Integer, Integer> toldOfSettings(int g) {
        Map<Integer, Integer> told = new HashMap<>();
        for (int c = 0; c < states[g][2]; c++) {
            for (int b = 0; b < states[g][1]; b++) {
                for (int a = 0; a < states[g][0]; a++) {
                    int setting = a + 3 * b + 9 * c;
                    told.put(10 + setting, weights[g][setting]);
                }
            }
        }
        return told;
    }

    boolean mix(int f, int h, int g) {
        if (!made(f) || !made(h) || !in(g, 0, 3) || !Arrays.equals(states[f], states[h])) {
            return false;
        }
        int[] next = new int[SETTINGS];
        Arrays.setAll(next, i -> weights[f][i] + weights[h][i]);
        if (Arrays.stream(next).sum() > 16) {
            return false;
        }
        states[g] = states[f].clone();
        weights[g] = next;
        return true;
    }

    boolean tell(int g, int rule) {
        if (!made(g) || !in(rule, 0, 19682)) {
            return false;
        }
        int[] next = new int[SETTINGS];
        for (int i = 0; i < SETTINGS; i++) {
            int both = i % 9;
            int digit = rule / (int) Math.round(Math.pow(3, both)) % 3;
            next[both + 9 * digit] += weights[g][i];
        }
        weights[g] = next;
        states[g] = new int[] {states[g][0], states[g][1], 3};
        return true;
    }

    boolean law(int l, int set, int k) {
        if (!in(l, 0, 9) || !in(set, 1, 7) || !in(k, -2, 2)) {
            return false;
        }
        laws[l][set] = k;
        return true;
    }

    /** The numbers of a plain one, put together as the document says it in words. */
    static int[] plainRow(int p) {
        int[][] pairs = {{1, 2}, {1, 4}, {2, 4}};
        int[] row = new int[8];
        if (p < 3) {
            row[7]++;
            row[7 - (1 << p)]--;
            return row;
        }
        int x = pairs[p % 3][0];
        int y = pairs[p % 3][1];
        int third = p < 6 ? 0 : 7 - x - y;
        row[x + third]++;
        row[y + third]++;
        row[x + y + third]--;
        row[third]--;
        row[0] = 0;
        return row;
    }

    boolean plain(int l, int p) {
        if (!in(l, 0, 9) || !in(p, 0, 8)) {
            return false;
        }
        laws[l] = plainRow(p);
        return true;
    }

    int number(int l, int set) {
        return in(l, 0, 9) && in(set, 1, 7) ? laws[l][set] : -11;
    }

    /** Weights above 0 of a set's settings, by the states of its things. */
    static List<Integer> sumsOf(int[] weights, int set) {
        TreeMap<List<Integer>, Integer> sums = new TreeMap<>((x, y) -> x.toString().compareTo(y.toString()));
        for (int i = 0; i < SETTINGS; i++) {
            int[] state = {i % 3, i / 3 % 3, i / 9};
            List<Integer> key = new ArrayList<>();
            for (int t = 0; t < 3; t++) {
                if ((set >> t & 1) == 1) {
                    key.add(state[t]);
                }
            }
            sums.merge(key, weights[i], Integer::sum);
        }
        return sums.values().stream().filter(w -> w > 0).toList();
    }

    /** 2 to the power of N times a law's sum and of times: a fraction, up and low. */
    BigInteger[] product(int g, int l, int times) {
        int total = total(g);
        BigInteger[] fraction = {BigInteger.ONE, BigInteger.ONE};
        for (int set = 1; set < 8; set++) {
            int k = laws[l][set] * times;
            int up = k > 0 ? 0 : 1;
            for (int w : sumsOf(weights[g], set)) {
                int power = w * Math.abs(k);
                fraction[up] = fraction[up].multiply(BigInteger.valueOf(total).pow(power));
                fraction[1 - up] = fraction[1 - up].multiply(BigInteger.valueOf(w).pow(power));
            }
        }
        return fraction;
    }

    int sign(int g, int l) {
        if (!made(g) || !in(l, 0, 9)) {
            return -2;
        }
        BigInteger[] f = product(g, l, 1);
        return f[0].compareTo(f[1]);
    }

    int compare(int g, int l, int h, int m) {
        if (!made(g) || !in(l, 0, 9) || !made(h) || !in(m, 0, 9)) {
            return -2;
        }
        BigInteger[] one = product(g, l, total(h));
        BigInteger[] other = product(h, m, total(g));
        return one[0].multiply(other[1]).compareTo(other[0].multiply(one[1]));
    }

    int near(int g, int l) {
        if (!made(g) || !in(l, 0, 9)) {
            return -10000;
        }
        BigInteger[] f = product(g, l, 16);
        int near = Math.floorDiv(f[0].bitLength() - f[1].bitLength() - 2, total(g)) - 1;
        while (!isBelowPowerOfTwo(f, (near + 1) * total(g))) {
            near++;
        }
        return near;
    }

    private static boolean isBelowPowerOfTwo(BigInteger[] f, int power) {
        BigInteger up = power < 0 ? f[0].shiftLeft(-power) : f[0];
        BigInteger low = power > 0 ? f[1].shiftLeft(power) : f[1];
        return up.compareTo(low) < 0;
    }

    /** A row of doubts as the document says it in words. */
    static int doubtByRow(int row, int set) {
        int[] met = {1, 2, 4, 3, 5, 6, 7};
        if (row < 7) {
            return (set & met[row]) != 0 ? 1 : 0;
        }
        return Math.min(2, Integer.bitCount(set));
    }

    static int sumByRow(int row, int[] numbers) {
        int sum = 0;
        for (int set = 1; set < 8; set++) {
            sum += numbers[set] * doubtByRow(row, set);
        }
        return sum;
    }

    int breaks(int l, int givens) {
        if (!in(l, 0, 9) || !in(givens, 0, 511)) {
            return -1;
        }
        for (int row = 0; row < 8; row++) {
            boolean kept = true;
            for (int p = 0; p < 9; p++) {
                kept &= (givens >> p & 1) == 0 || sumByRow(row, plainRow(p)) == 0;
            }
            if (kept && sumByRow(row, laws[l]) < 0) {
                return row;
            }
        }
        return -1;
    }

    int always(int l, int givens) {
        if (!in(l, 0, 9) || !in(givens, 0, 511)) {
            return -1;
        }
        return breaks(l, givens) == -1 ? 1 : 0;
    }

    boolean prove(int l) {
        if (!in(l, 0, 9)) {
            return false;
        }
        for (int i = 0; i < 9; i++) {
            for (int j = i + 1; j < 9; j++) {
                Fraction[] found = onlyShares(laws[l], i, j);
                if (found != null && Arrays.stream(found).noneMatch(s -> s.up().signum() < 0)) {
                    shares = found;
                    return true;
                }
            }
        }
        return false;
    }

    /** The only row of shares with those of i and j 0, by elimination; null if not just one. */
    static Fraction[] onlyShares(int[] numbers, int i, int j) {
        int[] kept = java.util.stream.IntStream.range(0, 9).filter(p -> p != i && p != j).toArray();
        Fraction[][] m = new Fraction[7][8];
        for (int row = 0; row < 7; row++) {
            for (int col = 0; col < 7; col++) {
                m[row][col] = Fraction.of(plainRow(kept[col])[row + 1]);
            }
            m[row][7] = Fraction.of(numbers[row + 1]);
        }
        for (int col = 0; col < 7; col++) {
            int pivot = col;
            while (pivot < 7 && m[pivot][col].up().signum() == 0) {
                pivot++;
            }
            if (pivot == 7) {
                return null;
            }
            Fraction[] swapped = m[pivot];
            m[pivot] = m[col];
            m[col] = swapped;
            for (int row = 0; row < 7; row++) {
                if (row != col && m[row][col].up().signum() != 0) {
                    Fraction ratio = m[row][col].by(m[col][col]);
                    for (int k = col; k < 8; k++) {
                        m[row][k] = m[row][k].less(ratio.times(m[col][k]));
                    }
                }
            }
        }
        Fraction[] found = new Fraction[9];
        Arrays.fill(found, Fraction.of(0));
        for (int col = 0; col < 7; col++) {
            found[kept[col]] = m[col][7].by(m[col][col]);
        }
        return found;
    }

    int share(int k, int what) {
        if (shares == null || !in(k, 0, 8) || !in(what, 0, 1)) {
            return -1;
        }
        return (what == 0 ? shares[k].up() : shares[k].low()).intValueExact();
    }

    int mean(int g, int set) {
        if (!made(g) || !in(set, 1, 7)) {
            return -1;
        }
        java.util.PriorityQueue<Integer> queue = new java.util.PriorityQueue<>(sumsOf(weights[g], set));
        int bits = 0;
        while (queue.size() > 1) {
            int joined = queue.remove() + queue.remove();
            bits += joined;
            queue.add(joined);
        }
        return bits;
    }

    boolean words(int n, int v) {
        if (!in(n, 1, 8) || v < 0) {
            return false;
        }
        double sum = 0;
        for (int i = 0; i < n; i++) {
            sum += Math.pow(0.5, v / (int) Math.round(Math.pow(10, i)) % 10);
        }
        return sum <= 1;
    }

    /** By weights alone: no products of doubts. */
    int secret(int g, int set) {
        if (!made(g) || set != 2 && set != 4 && set != 6) {
            return -1;
        }
        int[][] both = new int[3][SETTINGS];
        int[] ofA = new int[3];
        int[] ofSet = new int[SETTINGS];
        for (int i = 0; i < SETTINGS; i++) {
            int key = ((set & 2) != 0 ? i / 3 % 3 : 0) + ((set & 4) != 0 ? 3 * (i / 9) : 0);
            both[i % 3][key] += weights[g][i];
            ofA[i % 3] += weights[g][i];
            ofSet[key] += weights[g][i];
        }
        boolean nothing = true;
        boolean all = true;
        for (int a = 0; a < 3; a++) {
            for (int s = 0; s < SETTINGS; s++) {
                nothing &= both[a][s] * total(g) == ofA[a] * ofSet[s];
                all &= both[a][s] == 0 || both[a][s] == ofSet[s];
            }
        }
        return all ? 1 : nothing ? 0 : 2;
    }
}
