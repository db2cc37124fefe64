import java.util.Random;

/** All promises together: long runs of calls, right and wrong ones, against the model. */
public final class RunsTest {
    private static final Due DUE = new Due("RunsTest");
    private static final int RUNS = 900;
    /** Each turn asks for up to 42 answers: with this many an object stays within its 512 calls. */
    private static final int CALLS = 470;
    private static final int[] FAR = {Integer.MIN_VALUE, Integer.MIN_VALUE + 1, -1000, 1000, Integer.MAX_VALUE - 1, Integer.MAX_VALUE};

    private final Random random;
    private final TellingBench bench = new TellingBench();
    private final Model model = new Model();
    private int calls = 0;

    private RunsTest(long seed) {
        random = new Random(seed);
    }

    public static void main(String[] args) {
        for (int run = 0; run < RUNS; run++) {
            RunsTest test = new RunsTest(run);
            for (int turn = 0; test.calls < CALLS; turn++) {
                test.call(turn < 40 ? test.random.nextInt(6) : test.random.nextInt(30));
            }
        }
        DUE.end();
    }

    private void is(String call, long got, long want) {
        calls++;
        DUE.is(call, got, want);
    }

    private void is(String call, boolean got, boolean want) {
        calls++;
        DUE.is(call, got, want);
    }

    /** Mostly from..to, seldom one beyond, seldom far away. */
    private int some(int from, int to) {
        int dice = random.nextInt(60);
        if (dice == 0) {
            return FAR[random.nextInt(FAR.length)];
        }
        if (dice <= 2) {
            return random.nextBoolean() ? from - 1 : to + 1;
        }
        return from + random.nextInt(to - from + 1);
    }

    private void call(int kind) {
        int g = some(0, 3);
        int h = some(0, 3);
        int l = some(0, 9);
        int m = some(0, 9);
        int set = some(1, 7);
        switch (kind) {
            case 0 -> worldCall(g);
            case 1, 2, 3, 4, 5, 6, 7, 8 -> weightCall(g);
            case 9, 10 -> told(g, some(0, 36));
            case 11 -> mixCall(g, h, some(0, 3));
            case 12 -> tellCall(g, some(0, 19682));
            case 13, 14, 15 -> lawCall(l, set, some(-2, 2));
            case 16 -> plainCall(l, some(0, 8));
            case 17 -> is("number", bench.number(l, set), model.number(l, set));
            case 18, 19 -> is("sign", bench.sign(g, l), model.sign(g, l));
            case 20, 21 -> is("compare", bench.compare(g, l, h, m), model.compare(g, l, h, m));
            case 22 -> is("near", bench.near(g, l), model.near(g, l));
            case 23 -> alwaysCalls(l, some(0, 511));
            case 24 -> alwaysCalls(l, 1 << random.nextInt(10));
            case 25 -> is("prove", bench.prove(l), model.prove(l));
            case 26 -> shareCalls(some(0, 8), some(0, 1));
            case 27 -> is("mean", bench.mean(g, set), model.mean(g, set));
            case 28 -> wordsCall();
            default -> secretCall(g, random.nextBoolean() ? 2 * some(1, 3) : some(0, 7));
        }
    }

    private void secretCall(int g, int set) {
        is("secret of " + set, bench.secret(g, set), model.secret(g, set));
    }

    private void worldCall(int g) {
        int a = some(1, 3);
        int b = some(1, 3);
        int c = some(1, 3);
        if (random.nextBoolean()) {
            a = 2;
            b = 2;
            c = 3;
        }
        is("world", bench.world(g, a, b, c), model.world(g, a, b, c));
    }

    private void weightCall(int g) {
        int a = some(0, 2);
        int b = some(0, 2);
        int c = some(0, 2);
        int w = random.nextInt(4) == 0 ? some(0, 16) : random.nextInt(4);
        is("weight", bench.weight(g, a, b, c, w), model.weight(g, a, b, c, w));
        told(g, 0);
        told(g, 4);
    }

    private void told(int g, int what) {
        is("told " + what, bench.told(g, what), model.told(g, what));
    }

    private void allTold(int g) {
        for (int what = -1; what < 40; what++) {
            told(g, what);
        }
    }

    private void mixCall(int f, int h, int g) {
        is("mix", bench.mix(f, h, g), model.mix(f, h, g));
        allTold(g);
    }

    private void tellCall(int g, int rule) {
        is("tell", bench.tell(g, rule), model.tell(g, rule));
        allTold(g);
    }

    private void lawCall(int l, int set, int k) {
        is("law", bench.law(l, set, k), model.law(l, set, k));
    }

    private void plainCall(int l, int p) {
        is("plain", bench.plain(l, p), model.plain(l, p));
        for (int set = -1; set < 9; set++) {
            is("number after plain", bench.number(l, set), model.number(l, set));
        }
    }

    private void alwaysCalls(int l, int givens) {
        is("always", bench.always(l, givens), model.always(l, givens));
        is("breaks", bench.breaks(l, givens), model.breaks(l, givens));
    }

    private void shareCalls(int k, int what) {
        is("share", bench.share(k, what), model.share(k, what));
        for (int p = 0; p < 9; p++) {
            is("share " + p, bench.share(p, 0), model.share(p, 0));
        }
    }

    private void wordsCall() {
        int n = some(1, 8);
        int v = some(0, 99999999);
        is("words", bench.words(n, v), model.words(n, v));
    }
}
