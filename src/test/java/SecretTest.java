/** Promise 19: secret. */
public final class SecretTest {
    private static final Due DUE = new Due("SecretTest");

    public static void main(String[] args) {
        twoSharesOfABit();
        bothHold();
        nothingWithUnevenWeights();
        someOnly();
        againstTheModel();
        refuses();
        DUE.end();
    }

    private static void twoSharesOfABit() {
        TellingBench x = new TellingBench();
        x.world(0, 2, 2, 2);
        for (int i = 0; i < 4; i++) {
            x.weight(0, i & 1, i >> 1, (i & 1) ^ (i >> 1), 3);
        }
        DUE.is("one share", x.secret(0, 2), 0);
        DUE.is("the other share", x.secret(0, 4), 0);
        DUE.is("both shares", x.secret(0, 6), 1);
    }

    private static void bothHold() {
        TellingBench x = new TellingBench();
        x.world(0, 3, 2, 2);
        x.weight(0, 1, 0, 0, 2);
        x.weight(0, 1, 1, 0, 3);
        for (int set = 2; set <= 6; set += 2) {
            DUE.is("A has no doubt", x.secret(0, set), 1);
        }
    }

    private static void nothingWithUnevenWeights() {
        TellingBench x = new TellingBench();
        x.world(0, 2, 2, 1);
        x.weight(0, 0, 0, 0, 1);
        x.weight(0, 1, 0, 0, 3);
        x.weight(0, 0, 1, 0, 2);
        x.weight(0, 1, 1, 0, 6);
        DUE.is("B tells nothing", x.secret(0, 2), 0);
        x.weight(0, 1, 1, 0, 5);
        DUE.is("B tells some", x.secret(0, 2), 2);
    }

    private static void someOnly() {
        TellingBench x = new TellingBench();
        x.world(0, 3, 2, 1);
        x.weight(0, 0, 0, 0, 1);
        x.weight(0, 1, 1, 0, 1);
        x.weight(0, 2, 1, 0, 1);
        DUE.is("some", x.secret(0, 2), 2);
        DUE.is("C has no doubt", x.secret(0, 4), 0);
        DUE.is("some", x.secret(0, 6), 2);
    }

    private static void againstTheModel() {
        java.util.Random random = new java.util.Random(6);
        for (int turn = 0; turn < 5000; turn++) {
            TellingBench x = new TellingBench();
            Model model = new Model();
            x.world(2, 2, 2, 2);
            model.world(2, 2, 2, 2);
            for (int i = 0; i < 8; i++) {
                int w = random.nextInt(3) % 2 * (1 + random.nextInt(2));
                DUE.is("weight", x.weight(2, i & 1, i >> 1 & 1, i >> 2, w), model.weight(2, i & 1, i >> 1 & 1, i >> 2, w));
            }
            for (int set = 0; set < 8; set++) {
                DUE.is("secret " + set, x.secret(2, set), model.secret(2, set));
            }
        }
    }

    private static void refuses() {
        TellingBench x = new TellingBench();
        x.world(0, 1, 1, 1);
        DUE.is("not made", x.secret(0, 2), -1);
        x.weight(0, 0, 0, 0, 1);
        for (int set : new int[] {0, 1, 3, 5, 7, 8, -2, Integer.MIN_VALUE, Integer.MAX_VALUE}) {
            DUE.is("set " + set, x.secret(0, set), -1);
        }
        for (int g : new int[] {1, 4, -1, Integer.MIN_VALUE, Integer.MAX_VALUE}) {
            DUE.is("world " + g, x.secret(g, 2), -1);
        }
        DUE.is("right", x.secret(0, 6), 1);
    }
}
