/** The boundary cases of promises 10 to 12: sign, compare, near. */
final class SumEdges {
    private static final String SIGN = "The sign of a LAW's SUM in a world: -1, 0, 1.";
    private static final String SIGN_NONE = "-2: it's not MADE, no such law.";
    private static final String COMPARE =
        "The SUM of law l in world g against that of law m in world h: -1 it's less, 0, 1.";
    private static final String COMPARE_NONE = "-2 likewise.";
    private static final String NEAR = "The greatest whole number that isn't above 16 times a LAW's SUM in a world.";
    private static final String NEAR_NONE = "-10000: it's not MADE, no such law.";

    private final Sentences s;

    private SumEdges(Sentences s) {
        this.s = s;
    }

    static void all(Sentences s) {
        SumEdges edges = new SumEdges(s);
        edges.sign();
        edges.compare();
        edges.near();
    }

    /** Law 0 is what A and B tell of one another, law 1 that turned round, law 2 the doubt of A. */
    private static TellingBench bench() {
        TellingBench x = new TellingBench();
        x.plain(0, 3);
        Scene.put(x, 1, -1, -1, 1);
        x.law(2, 1, 1);
        return x;
    }

    private void sign() {
        signOfNought();
        signNextToNought();
        signNotMade();
        signOfNoLaw();
    }

    private void signOfNought() {
        s.hold("Promise 10", SIGN);
        int[][] independent = {
            {1, 2, 2, 4}, {1, 3, 3, 9}, {2, 3, 4, 6}, {1, 4, 2, 8}, {0, 0, 5, 11}, {7, 0, 6, 0}, {0, 0, 0, 1},
        };
        for (int[] weights : independent) {
            TellingBench x = bench();
            Scene.make(x, 0, 2, 2, 1, weights);
            s.is("A and B tell nothing", x.sign(0, 0), 0);
            s.is("turned round", x.sign(0, 1), 0);
            s.is("the law of noughts", x.sign(0, 9), 0);
        }
    }

    private void signNextToNought() {
        s.hold("Promise 10", SIGN);
        int[][] nearlyIndependent = {{3, 4, 4, 5}, {1, 2, 5, 8}, {2, 2, 5, 6}, {1, 1, 6, 7}, {3, 3, 5, 4}};
        for (int[] weights : nearlyIndependent) {
            TellingBench x = bench();
            Scene.make(x, 0, 2, 2, 1, weights);
            s.is("a little above", x.sign(0, 0), 1);
            s.is("a little below", x.sign(0, 1), -1);
        }
        TellingBench x = new TellingBench();
        Scene.make(x, 0, 3, 3, 2, 0, 0, 0, 0, 6, 0, 0, 4, 1, 0, 0, 0, 0, 0, 0, 0, 5);
        Scene.put(x, 0, 1, 0, -2, 2, 2, 1, -2);
        Scene.put(x, 1, -1, 0, 2, -2, -2, -1, 2);
        s.is("0.0000002 below", x.sign(0, 0), -1);
        s.is("0.0000002 above", x.sign(0, 1), 1);
    }

    private void signNotMade() {
        s.hold("Promise 10", SIGN_NONE);
        TellingBench x = Scene.full();
        s.is("no states told", x.sign(3, 0), -2);
        x.world(3, 2, 2, 2);
        s.is("no weight", x.sign(3, 0), -2);
        x.weight(3, 0, 0, 0, 1);
        s.is("made", x.sign(3, 0), 0);
        x.weight(3, 0, 0, 0, 0);
        s.is("made no more", x.sign(3, 0), -2);
        for (int g : Scene.outside(0, 3)) {
            s.is("sign(" + g + ", 0)", x.sign(g, 0), -2);
        }
    }

    private void signOfNoLaw() {
        s.hold("Promise 10", SIGN_NONE);
        TellingBench x = Scene.full();
        for (int l : Scene.outside(0, 9)) {
            s.is("sign(0, " + l + ")", x.sign(0, l), -2);
            s.is("sign(2, " + l + ")", x.sign(2, l), -2);
        }
        s.is("the last law", x.sign(2, 9), 0);
    }

    private void compare() {
        compareSame();
        compareNextToSame();
        compareFarApart();
        compareNotMade();
        compareOfNoLaw();
    }

    private void compareSame() {
        s.hold("Promise 11", COMPARE);
        TellingBench x = bench();
        Scene.make(x, 0, 2, 1, 1, 1, 2);
        Scene.make(x, 1, 2, 1, 1, 10, 5);
        Scene.make(x, 2, 1, 2, 3, 0, 0, 0, 4, 2, 0);
        Scene.put(x, 3, 0, 0, 0, 0, 0, 1);
        s.is("1 and 2 as 10 and 5", x.compare(0, 2, 1, 2), 0);
        s.is("as 4 and 2 of B and C", x.compare(1, 2, 2, 3), 0);
        s.is("with itself", x.compare(1, 2, 1, 2), 0);
        s.is("nought and nought", x.compare(0, 9, 1, 8), 0);
        s.is("told nothing, and nought", x.compare(2, 0, 0, 9), 0);
    }

    private void compareNextToSame() {
        s.hold("Promise 11", COMPARE);
        for (int[][] tie : SumsTest.NEAR_TIES) {
            TellingBench x = new TellingBench();
            Model model = new Model();
            for (int side = 0; side < 2; side++) {
                int[] weights = tie[2 * side];
                Scene.make(x, side, 3, 3, 3, weights);
                model.world(side, 3, 3, 3);
                for (int i = 0; i < 27; i++) {
                    model.weight(side, i % 3, i / 3 % 3, i / 9, weights[i]);
                }
                for (int set = 1; set <= 7; set++) {
                    x.law(side, set, tie[2 * side + 1][set]);
                    model.law(side, set, tie[2 * side + 1][set]);
                }
            }
            int due = model.compare(0, 0, 1, 1);
            s.yes("not the same", due != 0);
            s.is("less than a part in a hundred thousand millions apart", x.compare(0, 0, 1, 1), due);
            s.is("turned round", x.compare(1, 1, 0, 0), -due);
        }
    }

    private void compareFarApart() {
        s.hold("Promise 11", COMPARE);
        TellingBench x = new TellingBench();
        Scene.make(x, 0, 3, 3, 3, 1, 1, 1, 1, 1, 1, 1, 1, 1, 1, 1, 1, 1, 1, 1, 1);
        Scene.make(x, 3, 3, 3, 2, 1, 1, 1, 1, 1, 1, 1, 1, 1, 1, 1, 1, 1, 1, 1);
        Scene.put(x, 0, 2, 2, 2, 2, 2, 2, 2);
        Scene.put(x, 9, -2, -2, -2, -2, -2, -2, -2);
        s.is("the greatest and the least", x.compare(0, 0, 3, 9), 1);
        s.is("the least and the greatest", x.compare(3, 9, 0, 0), -1);
        s.is("16 settings and 15", x.compare(0, 0, 3, 0), 1);
        s.is("turned round", x.compare(0, 9, 3, 9), -1);
        s.is("nought and below", x.compare(3, 5, 0, 9), 1);
        s.is("nought and above", x.compare(3, 5, 0, 0), -1);
    }

    private void compareNotMade() {
        s.hold("Promise 11", COMPARE_NONE);
        TellingBench x = Scene.full();
        s.is("g has no states told", x.compare(3, 0, 0, 0), -2);
        s.is("h has no states told", x.compare(0, 0, 3, 0), -2);
        x.world(3, 1, 1, 1);
        s.is("g has no weight", x.compare(3, 0, 0, 0), -2);
        s.is("h has no weight", x.compare(0, 0, 3, 0), -2);
        s.is("neither is made", x.compare(3, 0, 3, 0), -2);
        for (int g : Scene.outside(0, 3)) {
            s.is("compare(" + g + ", 0, 0, 0)", x.compare(g, 0, 0, 0), -2);
            s.is("compare(0, 0, " + g + ", 0)", x.compare(0, 0, g, 0), -2);
            s.is("compare(" + g + ", 0, " + g + ", 0)", x.compare(g, 0, g, 0), -2);
        }
    }

    private void compareOfNoLaw() {
        s.hold("Promise 11", COMPARE_NONE);
        TellingBench x = Scene.full();
        for (int l : Scene.outside(0, 9)) {
            s.is("compare(0, " + l + ", 1, 0)", x.compare(0, l, 1, 0), -2);
            s.is("compare(0, 0, 1, " + l + ")", x.compare(0, 0, 1, l), -2);
            s.is("compare(0, " + l + ", 0, " + l + ")", x.compare(0, l, 0, l), -2);
        }
        s.is("the last law", x.compare(2, 9, 2, 9), 0);
    }

    private void near() {
        nearWhole();
        nearBetween();
        nearNextToNought();
        nearNextToWhole();
        nearGreatest();
        nearNotMade();
        nearOfNoLaw();
    }

    private void nearWhole() {
        s.hold("Promise 12", NEAR);
        TellingBench x = bench();
        Scene.make(x, 0, 2, 2, 1, 8, 0, 0, 8);
        Scene.make(x, 1, 3, 1, 1, 4, 2, 2);
        Scene.make(x, 2, 1, 1, 1, 1);
        s.is("one bit", x.near(0, 0), 16);
        s.is("one bit below", x.near(0, 1), -16);
        s.is("one bit and a half", x.near(1, 2), 24);
        s.is("no doubt", x.near(2, 2), 0);
        s.is("the law of noughts", x.near(0, 9), 0);
    }

    private void nearBetween() {
        s.hold("Promise 12", NEAR);
        TellingBench x = bench();
        x.law(3, 1, -1);
        Scene.make(x, 0, 2, 1, 1, 1, 2);
        Scene.make(x, 1, 3, 1, 1, 1, 1, 1);
        s.is("16 times 0.918 is 14.69", x.near(0, 2), 14);
        s.is("its like below 0", x.near(0, 3), -15);
        s.is("16 times 1.585 is 25.36", x.near(1, 2), 25);
        s.is("its like below 0", x.near(1, 3), -26);
    }

    private void nearNextToNought() {
        s.hold("Promise 12", NEAR);
        TellingBench x = bench();
        Scene.make(x, 0, 2, 2, 1, 3, 4, 4, 5);
        s.is("a little above 0", x.near(0, 0), 0);
        s.is("a little below 0", x.near(0, 1), -1);
    }

    private void nearNextToWhole() {
        s.hold("Promise 12", NEAR);
        TellingBench x = new TellingBench();
        Scene.make(x, 0, 3, 3, 3, 0, 0, 0, 0, 0, 0, 0, 0, 0, 0, 4, 0, 0, 4, 2, 1, 3, 0, 0, 0, 0, 1);
        Scene.put(x, 0, 0, -2, -1, -2, 1, -2, -2);
        Scene.put(x, 1, 0, 2, 1, 2, -1, 2, 2);
        s.is("0.00000004 below -213", x.near(0, 0), -214);
        s.is("0.00000004 above 213", x.near(0, 1), 213);
    }

    private void nearGreatest() {
        s.hold("Promise 12", NEAR);
        TellingBench x = new TellingBench();
        Scene.put(x, 0, 2, 2, 2, 2, 2, 2, 2);
        Scene.put(x, 1, -2, -2, -2, -2, -2, -2, -2);
        Scene.make(x, 0, 3, 3, 1, 1, 1, 1, 1, 1, 1, 1, 1, 1);
        s.is("32 times 8 times the logarithm of 3 is 405.75", x.near(0, 0), 405);
        s.is("its like below 0", x.near(0, 1), -406);
        Scene.make(x, 1, 2, 2, 2, 2, 2, 2, 2, 2, 2, 2, 2);
        s.is("32 times 12 bits", x.near(1, 0), 384);
        s.is("its like below 0", x.near(1, 1), -384);
    }

    private void nearNotMade() {
        s.hold("Promise 12", NEAR_NONE);
        TellingBench x = Scene.full();
        s.is("no states told", x.near(3, 0), -10000);
        x.world(3, 2, 2, 2);
        s.is("no weight", x.near(3, 0), -10000);
        x.weight(3, 0, 0, 0, 1);
        s.is("made", x.near(3, 0), 0);
        x.weight(3, 0, 0, 0, 0);
        s.is("made no more", x.near(3, 0), -10000);
        for (int g : Scene.outside(0, 3)) {
            s.is("near(" + g + ", 0)", x.near(g, 0), -10000);
        }
    }

    private void nearOfNoLaw() {
        s.hold("Promise 12", NEAR_NONE);
        TellingBench x = Scene.full();
        for (int l : Scene.outside(0, 9)) {
            s.is("near(0, " + l + ")", x.near(0, l), -10000);
            s.is("near(2, " + l + ")", x.near(2, l), -10000);
        }
        s.is("the last law", x.near(2, 9), 0);
    }
}
