/** The boundary cases of promises 17 to 19: mean, words, secret. */
final class WordEdges {
    private static final String MEAN = "The least MEAN of WORDS of a SET (1 to 7) in a world.";
    private static final String MEAN_NONE = "NONE: it's not MADE, no such SET.";
    private static final String WORDS = "Whether there are WORDS of n (1 to 8) lengths, the digits of v to the base of 10"
        + " (0 to 9 bits each; the first one the lowest): halves by lengths add up to 1 at most.";
    private static final String WORDS_FALSE = "False: not, n is outside, v is below 0.";
    private static final String SECRET = "What a set of THINGS (a SET without A, of B and C: 2, 4, 6) knows of the secret A"
        + " in a world: 0 nothing (they tell nothing of one another), 1 all (A is left no doubt), 2 some; where both"
        + " hold 1.";
    private static final String SECRET_NONE = "NONE: it's not MADE, another SET.";

    private final Sentences s;

    private WordEdges(Sentences s) {
        this.s = s;
    }

    static void all(Sentences s) {
        WordEdges edges = new WordEdges(s);
        edges.mean();
        edges.words();
        edges.secret();
    }

    private void mean() {
        meanOfOneAndTwo();
        meanOfSixteenAlike();
        meanOfLongestWords();
        meanOfEachSet();
        meanNotMade();
        meanOfNoSet();
    }

    private void meanOfOneAndTwo() {
        s.hold("Promise 17", MEAN);
        TellingBench x = new TellingBench();
        Scene.make(x, 0, 3, 1, 1, 0, 16);
        s.is("one setting", x.mean(0, 1), 0);
        Scene.make(x, 1, 3, 1, 1, 1, 0, 15);
        s.is("two settings", x.mean(1, 1), 16);
        Scene.make(x, 2, 1, 1, 1, 1);
        s.is("one setting of weight 1", x.mean(2, 7), 0);
        Scene.make(x, 3, 3, 1, 1, 1, 1, 1);
        s.is("three settings", x.mean(3, 1), 5);
    }

    private void meanOfSixteenAlike() {
        s.hold("Promise 17", MEAN);
        TellingBench x = new TellingBench();
        Scene.make(x, 0, 3, 3, 3, 1, 1, 1, 1, 1, 1, 1, 1, 1, 1, 1, 1, 1, 1, 1, 1);
        s.is("sixteen words of four bits", x.mean(0, 7), 64);
        Scene.make(x, 1, 3, 3, 3, 1, 1, 1, 1, 1, 1, 1, 1, 1, 1, 1, 1, 1, 1, 1);
        s.is("one of three, fourteen of four bits", x.mean(1, 7), 59);
    }

    private void meanOfLongestWords() {
        s.hold("Promise 17", MEAN);
        TellingBench x = new TellingBench();
        Scene.make(x, 0, 3, 3, 1, 1, 1, 2, 4, 8);
        s.is("1 and 1 of four bits, 2 of three, 4 of two, 8 of one", x.mean(0, 3), 30);
        Scene.make(x, 1, 3, 3, 1, 5, 1, 3, 1, 2);
        s.is("the same of 5, 1, 3, 1, 2", x.mean(1, 3), 25);
        Scene.make(x, 2, 3, 3, 1, 4, 4, 4, 4);
        s.is("four alike", x.mean(2, 3), 32);
    }

    private void meanOfEachSet() {
        s.hold("Promise 17", MEAN);
        TellingBench x = new TellingBench();
        Scene.make(x, 0, 2, 2, 2, 4, 2, 2, 0, 1, 3, 0, 4);
        int[] due = {0, 16, 16, 32, 16, 28, 32, 40};
        for (int set = 1; set <= 7; set++) {
            s.is("mean(0, " + set + ")", x.mean(0, set), due[set]);
        }
    }

    private void meanNotMade() {
        s.hold("Promise 17", MEAN_NONE);
        TellingBench x = Scene.full();
        s.is("no states told", x.mean(3, 1), -1);
        x.world(3, 2, 2, 2);
        s.is("no weight", x.mean(3, 7), -1);
        x.weight(3, 0, 0, 0, 1);
        s.is("made", x.mean(3, 7), 0);
        x.weight(3, 0, 0, 0, 0);
        s.is("made no more", x.mean(3, 7), -1);
        for (int g : Scene.outside(0, 3)) {
            s.is("mean(" + g + ", 1)", x.mean(g, 1), -1);
        }
    }

    private void meanOfNoSet() {
        s.hold("Promise 17", MEAN_NONE);
        TellingBench x = Scene.full();
        for (int set : Scene.outside(1, 7)) {
            s.is("mean(0, " + set + ")", x.mean(0, set), -1);
        }
        for (int set = 8; set <= 15; set++) {
            s.is("mean(0, " + set + ")", x.mean(0, set), -1);
        }
    }

    private void words() {
        fewestAndMostWords();
        shortestAndLongestWords();
        justOneAndJustAbove();
        digitsFromTheLowest();
        noSuchCount();
        belowNought();
    }

    private void fewestAndMostWords() {
        s.hold("Promise 18", WORDS);
        TellingBench x = new TellingBench();
        for (int length = 0; length <= 9; length++) {
            s.yes("words(1, " + length + ")", x.words(1, length));
        }
        s.yes("words(8, 33333333)", x.words(8, 33333333));
        s.no("words(8, 33333332)", x.words(8, 33333332));
        s.no("words(8, 23333333)", x.words(8, 23333333));
    }

    private void shortestAndLongestWords() {
        s.hold("Promise 18", WORDS);
        TellingBench x = new TellingBench();
        s.no("a word without a bit beside one of nine", x.words(2, 90));
        s.no("turned round", x.words(2, 9));
        s.no("two without a bit", x.words(2, 0));
        s.no("eight without a bit", x.words(8, 0));
        s.yes("eight of nine bits", x.words(8, 99999999));
        s.yes("the greatest v, 83647 of it", x.words(5, 2147483647));
        s.yes("the greatest v, 47483647 of it", x.words(8, 2147483647));
    }

    private void justOneAndJustAbove() {
        s.hold("Promise 18", WORDS);
        TellingBench x = new TellingBench();
        s.yes("1, 2, 3, 4, 5, 6, 7, 7: just 1", x.words(8, 77654321));
        s.no("1, 2, 3, 4, 5, 6, 6, 9: a part in 512 above", x.words(8, 96654321));
        s.no("1, 1, 9: a part in 512 above", x.words(3, 911));
        s.yes("1, 2, 2: just 1", x.words(3, 122));
        s.no("1, 2, 2, 9", x.words(4, 9122));
        s.yes("2, 2, 2, 2: just 1", x.words(4, 2222));
        s.no("1, 2, 3, 3, 9", x.words(5, 93321));
        s.yes("1, 2, 3, 4, 9", x.words(5, 94321));
    }

    private void digitsFromTheLowest() {
        s.hold("Promise 18", WORDS);
        TellingBench x = new TellingBench();
        s.yes("1, 1, and beyond them a 0", x.words(2, 11));
        s.no("1, 1 and 0", x.words(3, 11));
        s.no("0 and 1", x.words(2, 10));
        s.yes("2, 2, 1", x.words(3, 221));
        s.no("1, 1, 1", x.words(3, 111));
        s.no("7, 9, 0 as the third", x.words(3, 97));
    }

    private void noSuchCount() {
        s.hold("Promise 18", WORDS_FALSE);
        TellingBench x = new TellingBench();
        for (int n : Scene.outside(1, 8)) {
            s.no("words(" + n + ", 99999999)", x.words(n, 99999999));
            s.no("words(" + n + ", 2147483647)", x.words(n, 2147483647));
            s.no("words(" + n + ", 9)", x.words(n, 9));
        }
        s.no("words(0, 0)", x.words(0, 0));
        s.no("words(9, 999999999)", x.words(9, 999999999));
    }

    private void belowNought() {
        s.hold("Promise 18", WORDS_FALSE);
        TellingBench x = new TellingBench();
        for (int v : new int[] {-1, -9, -10, -99999999, Integer.MIN_VALUE, Integer.MIN_VALUE + 1}) {
            for (int n = 1; n <= 8; n++) {
                s.no("words(" + n + ", " + v + ")", x.words(n, v));
            }
        }
        s.yes("v is 0", x.words(1, 0));
    }

    private void secret() {
        secretNothing();
        secretAll();
        secretSome();
        secretBoth();
        secretNotMade();
        secretOfAnotherSet();
    }

    private void secretsAre(TellingBench x, int ofB, int ofC, int ofBoth) {
        s.is("secret(0, 2)", x.secret(0, 2), ofB);
        s.is("secret(0, 4)", x.secret(0, 4), ofC);
        s.is("secret(0, 6)", x.secret(0, 6), ofBoth);
    }

    private void secretNothing() {
        s.hold("Promise 19", SECRET);
        TellingBench x = new TellingBench();
        Scene.make(x, 0, 2, 2, 2, 2, 2, 2, 2, 2, 2, 2, 2);
        secretsAre(x, 0, 0, 0);
        Scene.make(x, 0, 2, 2, 1, 1, 3, 3, 9);
        secretsAre(x, 0, 0, 0);
        Scene.make(x, 0, 3, 1, 1, 1, 1, 1);
        secretsAre(x, 0, 0, 0);
    }

    private void secretAll() {
        s.hold("Promise 19", SECRET);
        TellingBench x = new TellingBench();
        Scene.make(x, 0, 2, 2, 2, 4, 0, 0, 4, 0, 4, 4, 0);
        secretsAre(x, 0, 0, 1);
        Scene.make(x, 0, 2, 3, 1, 1, 0, 0, 14, 1, 0);
        secretsAre(x, 1, 0, 1);
        Scene.make(x, 0, 2, 1, 2, 1, 0, 0, 15);
        secretsAre(x, 0, 1, 1);
    }

    private void secretSome() {
        s.hold("Promise 19", SECRET);
        TellingBench x = new TellingBench();
        Scene.make(x, 0, 2, 2, 1, 3, 4, 4, 5);
        secretsAre(x, 2, 0, 2);
        Scene.make(x, 0, 2, 1, 2, 15, 0, 0, 1);
        x.weight(0, 0, 0, 0, 14);
        x.weight(0, 1, 0, 0, 1);
        secretsAre(x, 0, 2, 2);
        Scene.make(x, 0, 2, 2, 2, 4, 0, 0, 4, 0, 4, 3, 1);
        secretsAre(x, 2, 2, 2);
    }

    private void secretBoth() {
        s.hold("Promise 19", SECRET);
        TellingBench x = new TellingBench();
        Scene.make(x, 0, 1, 2, 2, 1, 2, 3, 4);
        secretsAre(x, 1, 1, 1);
        Scene.make(x, 0, 3, 3, 3, 0, 0, 16);
        secretsAre(x, 1, 1, 1);
        Scene.make(x, 0, 3, 2, 1, 0, 1, 0, 0, 2);
        secretsAre(x, 1, 1, 1);
    }

    private void secretNotMade() {
        s.hold("Promise 19", SECRET_NONE);
        TellingBench x = Scene.full();
        for (int set = 2; set <= 6; set += 2) {
            s.is("no states told", x.secret(3, set), -1);
        }
        x.world(3, 2, 2, 2);
        s.is("no weight", x.secret(3, 6), -1);
        x.weight(3, 0, 0, 0, 1);
        s.is("made", x.secret(3, 6), 1);
        x.weight(3, 0, 0, 0, 0);
        s.is("made no more", x.secret(3, 6), -1);
        for (int g : Scene.outside(0, 3)) {
            s.is("secret(" + g + ", 6)", x.secret(g, 6), -1);
        }
    }

    private void secretOfAnotherSet() {
        s.hold("Promise 19", SECRET_NONE);
        TellingBench x = Scene.full();
        for (int set : new int[] {0, 1, 3, 5, 7}) {
            s.is("secret(0, " + set + ")", x.secret(0, set), -1);
        }
        for (int set : Scene.outside(0, 7)) {
            s.is("secret(0, " + set + ")", x.secret(0, set), -1);
        }
        for (int set = 8; set <= 15; set++) {
            s.is("secret(0, " + set + ")", x.secret(0, set), -1);
        }
    }
}
