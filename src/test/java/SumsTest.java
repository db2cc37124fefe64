/** Promises 10 to 12: sign, compare, near; and that no rounding decides them. */
public final class SumsTest {
    private static final Due DUE = new Due("SumsTest");

    /**
     * Weights, law, weights, law: sums that differ by less than a part in a hundred thousand millions.
     * Of the first two, 0.0000000000005 and 0.000000000003 apart, logarithms cut to 40 bits tell the
     * wrong order.
     */
    static final int[][][] NEAR_TIES = {
        {{0, 0, 2, 0, 1, 2, 0, 0, 6, 0, 2, 0, 0, 1, 0, 0, 0, 0, 0, 0, 0, 0, 0, 0, 0, 0, 0}, {0, 2, -1, 0, -1, 1, -2, -2},
         {0, 0, 0, 0, 6, 0, 3, 4, 0, 0, 0, 0, 0, 0, 0, 0, 0, 0, 0, 0, 0, 2, 1, 0, 0, 0, 0}, {0, -1, 1, -1, -1, 0, -1, -2}},
        {{0, 1, 0, 1, 1, 2, 0, 0, 0, 0, 0, 0, 1, 0, 1, 0, 0, 0, 0, 0, 0, 1, 2, 2, 0, 1, 0}, {0, 1, -1, 2, -1, 0, 1, 0},
         {0, 0, 0, 3, 0, 1, 0, 3, 0, 0, 0, 0, 0, 0, 2, 0, 5, 0, 0, 0, 0, 0, 0, 0, 0, 0, 1}, {0, 2, 1, 2, 2, 2, -2, -2}},
        {{0, 1, 0, 1, 0, 1, 1, 0, 1, 0, 0, 1, 0, 0, 0, 0, 0, 0, 0, 2, 0, 1, 1, 0, 0, 1, 2}, {0, 2, -1, -1, 2, 1, 2, 1},
         {1, 1, 2, 0, 0, 2, 1, 0, 0, 0, 1, 0, 2, 1, 0, 1, 1, 0, 0, 0, 0, 1, 0, 1, 0, 0, 1}, {0, 1, 1, 0, 1, 2, 1, 0}},
        {{0, 0, 0, 0, 0, 0, 0, 5, 0, 0, 3, 0, 1, 0, 0, 0, 0, 0, 0, 0, 0, 0, 3, 0, 0, 0, 1}, {0, -1, -1, 0, 1, 1, 2, 0},
         {2, 0, 2, 2, 0, 0, 0, 0, 8, 0, 0, 0, 0, 0, 0, 0, 0, 0, 0, 0, 0, 0, 0, 0, 1, 0, 0}, {0, 0, 2, 1, 2, -1, 2, -1}},
        {{0, 0, 0, 0, 2, 3, 1, 3, 0, 0, 0, 0, 0, 0, 2, 0, 0, 0, 0, 0, 1, 0, 0, 0, 3, 0, 0}, {0, 2, 2, 1, -2, 2, -2, -2},
         {0, 0, 0, 0, 0, 0, 0, 0, 0, 2, 3, 2, 0, 0, 0, 0, 4, 0, 0, 0, 2, 0, 0, 0, 0, 0, 0}, {0, 1, 2, -2, 2, -1, 1, 0}},
        {{0, 0, 0, 1, 0, 0, 0, 0, 0, 0, 0, 0, 4, 0, 1, 0, 0, 5, 0, 0, 0, 0, 0, 0, 2, 0, 0}, {0, 2, 2, -2, -2, 2, -2, -2},
         {0, 0, 0, 0, 1, 1, 0, 11, 1, 0, 0, 0, 0, 0, 0, 0, 0, 0, 0, 0, 1, 0, 0, 0, 0, 0, 0}, {0, -2, 0, 0, 1, 0, -2, -2}},
        {{0, 0, 0, 0, 0, 2, 0, 0, 0, 2, 0, 0, 9, 0, 0, 0, 0, 0, 0, 2, 0, 0, 0, 0, 0, 0, 0}, {0, 2, 2, 1, 1, -1, 0, 2},
         {0, 0, 0, 1, 3, 0, 0, 6, 0, 0, 0, 0, 0, 0, 0, 0, 0, 0, 0, 6, 0, 0, 0, 0, 0, 0, 0}, {0, -2, 1, 2, 1, 0, 1, 1}},
        {{0, 0, 0, 0, 0, 4, 0, 0, 0, 0, 0, 0, 0, 0, 3, 0, 0, 0, 0, 0, 0, 1, 1, 2, 0, 0, 0}, {0, 0, 2, -2, -2, -1, -2, 2},
         {0, 0, 0, 0, 0, 0, 0, 0, 0, 0, 0, 0, 1, 0, 10, 0, 0, 0, 2, 0, 0, 0, 0, 0, 0, 0, 3}, {0, 1, 0, -1, -1, 0, -1, -2}},
    };

    /** Weights, law: 16 times the sum is within 0.00003, at last 0.00000004, of a whole number. */
    private static final int[][][] NEAR_WHOLE = {
        {{0, 1, 0, 0, 0, 1, 1, 1, 0, 0, 0, 0, 1, 0, 0, 0, 1, 0, 0, 0, 0, 3, 2, 0, 0, 1, 1}, {0, 2, 1, 2, -2, 2, 1, 2}, {336}},
        {{1, 0, 1, 4, 0, 0, 0, 0, 1, 0, 0, 0, 1, 0, 1, 1, 0, 0, 0, 0, 0, 0, 1, 1, 0, 0, 1}, {0, 1, -1, -1, 1, 0, -1, -2}, {-159}},
        {{2, 0, 0, 0, 0, 1, 0, 1, 0, 1, 0, 0, 0, 0, 3, 3, 1, 0, 1, 0, 0, 0, 0, 0, 1, 0, 1}, {0, 2, 1, -2, 1, -2, -2, -2}, {-256}},
        {{1, 1, 1, 2, 0, 1, 0, 3, 0, 1, 1, 0, 0, 0, 0, 0, 1, 0, 0, 0, 1, 0, 1, 0, 0, 0, 1}, {0, 1, -2, 0, -2, 1, -2, 1}, {-62}},
        {{0, 0, 0, 0, 0, 0, 1, 2, 0, 4, 0, 3, 0, 0, 0, 0, 0, 4, 0, 0, 0, 0, 0, 0, 1, 0, 0}, {0, -2, -1, -2, 1, -2, -1, -1}, {-246}},
        {{0, 0, 0, 0, 0, 0, 1, 2, 0, 4, 0, 3, 0, 0, 0, 0, 0, 4, 0, 0, 0, 0, 0, 0, 1, 0, 0}, {0, 2, 1, 2, -1, 2, 1, 1}, {245}},
    };

    public static void main(String[] args) {
        wholeSums();
        thirds();
        nearTies();
        nearWholeNumbers();
        againstTheModel();
        greatestSums();
        refuses();
        DUE.end();
    }

    private static void wholeSums() {
        TellingBench x = new TellingBench();
        x.world(0, 2, 2, 2);
        for (int i = 0; i < 8; i++) {
            x.weight(0, i & 1, i >> 1 & 1, i >> 2, 2);
        }
        x.law(0, 7, 1);
        DUE.is("three bits", x.near(0, 0), 48);
        x.law(0, 7, -2);
        DUE.is("six bits less than nought", x.near(0, 0), -96);
        DUE.is("below", x.sign(0, 0), -1);
        x.law(0, 1, 2);
        x.law(0, 6, 2);
        DUE.is("nothing told", x.sign(0, 0), 0);
        DUE.is("nothing told", x.near(0, 0), 0);
        DUE.is("equal to the law of noughts", x.compare(0, 0, 0, 9), 0);
        x.world(1, 1, 1, 1);
        x.weight(1, 0, 0, 0, 7);
        x.law(1, 7, 2);
        DUE.is("no doubt", x.sign(1, 1), 0);
        DUE.is("no doubt", x.near(1, 1), 0);
    }

    /** The same shares of other totals: the same doubt, in other products. */
    private static void thirds() {
        TellingBench x = new TellingBench();
        int[] times = {1, 2, 4, 5};
        for (int g = 0; g < 4; g++) {
            x.world(g, 2, 1, 1);
            x.weight(g, 0, 0, 0, times[g]);
            x.weight(g, 1, 0, 0, 2 * times[g]);
        }
        x.law(0, 1, 1);
        x.law(1, 1, 2);
        x.law(2, 1, -1);
        for (int g = 0; g < 4; g++) {
            DUE.is("near", x.near(g, 0), 14);
            DUE.is("near below", x.near(g, 2), -15);
            for (int h = 0; h < 4; h++) {
                DUE.is("same", x.compare(g, 0, h, 0), 0);
                DUE.is("less", x.compare(g, 0, h, 1), -1);
                DUE.is("more", x.compare(g, 1, h, 0), 1);
                DUE.is("below", x.compare(g, 2, h, 3), -1);
            }
        }
    }

    private static void nearTies() {
        for (int[][] tie : NEAR_TIES) {
            TellingBench x = new TellingBench();
            Model model = new Model();
            put(x, model, 0, tie[0], 0, tie[1]);
            put(x, model, 1, tie[2], 1, tie[3]);
            int due = model.compare(0, 0, 1, 1);
            DUE.yes("no real tie", due != 0);
            DUE.is("near tie", x.compare(0, 0, 1, 1), due);
            DUE.is("near tie, turned", x.compare(1, 1, 0, 0), -due);
        }
    }

    private static void nearWholeNumbers() {
        for (int[][] row : NEAR_WHOLE) {
            TellingBench x = new TellingBench();
            Model model = new Model();
            put(x, model, 0, row[0], 0, row[1]);
            DUE.is("near whole", x.near(0, 0), row[2][0]);
            DUE.is("model near whole", model.near(0, 0), row[2][0]);
        }
    }

    private static void put(TellingBench x, Model model, int g, int[] weights, int l, int[] law) {
        DUE.yes("world", x.world(g, 3, 3, 3) & model.world(g, 3, 3, 3));
        for (int i = 0; i < 27; i++) {
            DUE.yes("weight", x.weight(g, i % 3, i / 3 % 3, i / 9, weights[i]));
            model.weight(g, i % 3, i / 3 % 3, i / 9, weights[i]);
        }
        for (int set = 1; set < 8; set++) {
            DUE.yes("law", x.law(l, set, law[set]) & model.law(l, set, law[set]));
        }
    }

    private static void againstTheModel() {
        java.util.Random random = new java.util.Random(3);
        for (int turn = 0; turn < 60; turn++) {
            TellingBench x = new TellingBench();
            Model model = new Model();
            for (int g = 0; g < 4; g++) {
                int[] weights = new int[27];
                int cells = 1 + random.nextInt(27);
                int total = 1 + random.nextInt(16);
                for (int i = 0; i < total; i++) {
                    weights[random.nextInt(cells)]++;
                }
                put(x, model, g, weights, g, new int[8]);
            }
            for (int l = 0; l < 10; l++) {
                for (int set = 1; set < 8; set++) {
                    int k = random.nextInt(5) - 2;
                    x.law(l, set, k);
                    model.law(l, set, k);
                }
            }
            for (int l = 0; l < 10; l++) {
                for (int g = 0; g < 4; g++) {
                    DUE.is("sign", x.sign(g, l), model.sign(g, l));
                    DUE.is("near", x.near(g, l), model.near(g, l));
                    int h = random.nextInt(4);
                    int m = random.nextInt(10);
                    DUE.is("compare", x.compare(g, l, h, m), model.compare(g, l, h, m));
                    DUE.is("itself", x.compare(g, l, g, l), 0);
                }
            }
        }
    }

    /** Sixteen settings of weight 1, of which each set but the least has many: the greatest sums. */
    private static void greatestSums() {
        for (int k = -2; k <= 2; k += 4) {
            TellingBench x = new TellingBench();
            Model model = new Model();
            int[] weights = new int[27];
            for (int i = 0; i < 16; i++) {
                weights[(i * 5) % 27] = 1;
            }
            put(x, model, 0, weights, 0, new int[] {0, k, k, k, k, k, k, k});
            weights[0] = 0;
            put(x, model, 1, weights, 1, new int[] {0, -k, -k, -k, -k, -k, -k, -k});
            DUE.is("near", x.near(0, 0), model.near(0, 0));
            DUE.is("near", x.near(1, 1), model.near(1, 1));
            DUE.is("compare", x.compare(0, 0, 1, 1), k > 0 ? 1 : -1);
            DUE.is("compare", x.compare(0, 0, 1, 0), model.compare(0, 0, 1, 0));
        }
    }

    private static void refuses() {
        TellingBench x = new TellingBench();
        x.world(0, 2, 2, 2);
        x.weight(0, 0, 0, 0, 1);
        x.world(1, 2, 2, 2);
        for (int g : new int[] {1, 2, 4, -1, Integer.MIN_VALUE, Integer.MAX_VALUE}) {
            DUE.is("sign of world " + g, x.sign(g, 0), -2);
            DUE.is("near of world " + g, x.near(g, 0), -10000);
            DUE.is("compare of world " + g, x.compare(g, 0, 0, 0), -2);
            DUE.is("compare with world " + g, x.compare(0, 0, g, 0), -2);
        }
        for (int l : new int[] {10, -1, Integer.MIN_VALUE, Integer.MAX_VALUE}) {
            DUE.is("sign of law " + l, x.sign(0, l), -2);
            DUE.is("near of law " + l, x.near(0, l), -10000);
            DUE.is("compare of law " + l, x.compare(0, l, 0, 0), -2);
            DUE.is("compare with law " + l, x.compare(0, 0, 0, l), -2);
        }
    }
}
